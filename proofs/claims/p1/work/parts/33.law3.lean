
set_option maxHeartbeats 4000000 in
set_option maxRecDepth 100000 in
theorem law_told {p : Program} {l : Launch} {e : Env} {s : State} {m : MethodId} {below : List Frame} {meth : Method} {c : Code} {dC : Nat → ClassId} {dI : Nat → Nat → Nat} {b L : Nat} {xs : Nat → Int32} (hL : L = 11) (C0 : lw_At p s m meth c b L xs) (hN : nw_ok s) (h0 : Nat) (hRows : Nat) (hMer : Nat) (hEra : Nat) (hTape : Nat) (hRea : Nat) (hTra : Nat) (hWor : Nat) (hPla : Nat) (hMod : Nat) (hHe1 : Nat) (hHe2 : Nat) (m0 : Nat) (m_rowPerson : Nat) (m_rowStream : Nat) (m_rowMoment : Nat) (m_rowKnown : Nat) (m_rowValue : Nat) (m_isGone : Nat) (m_mergeTo : Nat) (m_mergeKnown : Nat) (m_isErased : Nat) (m_tape : Nat) (m_five : Nat) (m_size0 : Nat) (m_step : Nat) (m_stepA : Nat) (m_stepB : Nat) (m_stepC : Nat) (m_values : Nat) (m_heap : Nat) (m_isOne : Nat) (m_lawFrom : Nat) (m_lawTo : Nat) (m_hasLaw : Nat) (m_limits : Nat) (m_held : Nat) (m_hasKept : Nat) (m_kept : Nat) (m_keptAt : Nat) (m_placeTrait : Nat) (m_placePerson : Nat) (m_placeMoment : Nat) (m_placeValue : Nat) (m_isFilled : Nat) (m_uses : Nat) (m_heapsOne : Nat) (m_heapsOther : Nat) (k_isErased : ClassId)  (H : Heap) (locs : List Loc) (hK : va_K (dC, dI) vwCl [(k_isErased, .boolean)] s) (hP : va_P (dC, dI) vwCl [(h0, .inr (8, [.ref hRows, .ref hMer, .ref hEra, .ref hTape, .ref hRea, .ref hTra, .ref hWor, .ref hPla, .ref hMod, .ref hHe1, .ref hHe2, .int 0, .int 0, .int 0, .int 0, .int (-1), .int 0])), (m0, .inr (9, [.int 0, .int 0, .int 0, .ref m_rowPerson, .ref m_rowStream, .ref m_rowMoment, .ref m_rowKnown, .ref m_rowValue, .ref m_isGone, .ref m_mergeTo, .ref m_mergeKnown, .int 0, .ref m_isErased, .ref m_tape, .int 0, .int 0, .int 0, .int 0, .int (-1), .int 0, .ref m_five, .int 0, .int 0, .int 0, .int 0, .ref m_size0, .ref m_step, .ref m_stepA, .ref m_stepB, .ref m_stepC, .ref m_values, .ref m_heap, .ref m_isOne, .ref m_lawFrom, .ref m_lawTo, .ref m_hasLaw, .ref m_limits, .ref m_held, .ref m_hasKept, .ref m_kept, .ref m_keptAt, .int 0, .ref m_placeTrait, .ref m_placePerson, .ref m_placeMoment, .ref m_placeValue, .ref m_isFilled, .int 0, .ref m_uses, .ref m_heapsOne, .ref m_heapsOther])), (m_isErased, .inl (k_isErased, 20, .inl (fun _ => 0)))] H) (hD : va_D (fun q : Nat => s.heap.size ≤ q) [(h0, .inr (8, [.ref hRows, .ref hMer, .ref hEra, .ref hTape, .ref hRea, .ref hTra, .ref hWor, .ref hPla, .ref hMod, .ref hHe1, .ref hHe2, .int 0, .int 0, .int 0, .int 0, .int (-1), .int 0])), (m0, .inr (9, [.int 0, .int 0, .int 0, .ref m_rowPerson, .ref m_rowStream, .ref m_rowMoment, .ref m_rowKnown, .ref m_rowValue, .ref m_isGone, .ref m_mergeTo, .ref m_mergeKnown, .int 0, .ref m_isErased, .ref m_tape, .int 0, .int 0, .int 0, .int 0, .int (-1), .int 0, .ref m_five, .int 0, .int 0, .int 0, .int 0, .ref m_size0, .ref m_step, .ref m_stepA, .ref m_stepB, .ref m_stepC, .ref m_values, .ref m_heap, .ref m_isOne, .ref m_lawFrom, .ref m_lawTo, .ref m_hasLaw, .ref m_limits, .ref m_held, .ref m_hasKept, .ref m_kept, .ref m_keptAt, .int 0, .ref m_placeTrait, .ref m_placePerson, .ref m_placeMoment, .ref m_placeValue, .ref m_isFilled, .int 0, .ref m_uses, .ref m_heapsOne, .ref m_heapsOther])), (m_isErased, .inl (k_isErased, 20, .inl (fun _ => 0)))]) (hS : va_S (fun q : Nat => s.heap.size ≤ q) s.heap H locs) (ls : Array Slot) (hl : lv_has ls 4 [(3, .int 0), (2, .ref m0), (1, .ref h0), (0, .ref b)]) : W p l e room_1 s m #[Value.ref b] below meth c H locs 600000 7302250 (lw_Z below #[Value.ref b] s) (F0 m 859 ls []) := by
  obtain ⟨hx, hb, hr, hml, hown, hts, hX, hbl, hlocks, hgv⟩ := id C0
  have hts := fun w h => hts w (wsL_law_in w h)
  have hown : s.vm.findClass RL = some m.cls := hown
  have hA : ∀ q : Nat, s.heap.size ≤ q → (fun q : Nat => s.heap.size ≤ q) q := fun _ h => h
  have hbA : ¬ (fun q : Nat => s.heap.size ≤ q) b := Nat.not_le.mpr hbl
  obtain ⟨z1, ez1⟩ : ∃ z : Int32, z = xs (1 : Int32).toNatClampNeg := ⟨_, rfl⟩
  obtain ⟨z2, ez2⟩ : ∃ z : Int32, z = xs (2 : Int32).toNatClampNeg := ⟨_, rfl⟩
  obtain ⟨z3, ez3⟩ : ∃ z : Int32, z = xs (3 : Int32).toNatClampNeg := ⟨_, rfl⟩
  obtain ⟨z4, ez4⟩ : ∃ z : Int32, z = xs (4 : Int32).toNatClampNeg := ⟨_, rfl⟩
  refine lv_aload_n hx hb dL_law_859 rfl (lv_at hl 2 rfl) ?_
  refine lv_aload_n hx hb dL_law_860 rfl (lv_at hl 3 rfl) ?_
  refine lv_iload_n hx hb dL_law_861 rfl (lv_at hl 0 rfl) ?_
  refine lv_iconst (v := 1) hx hb dL_law_862 (by decide) ?_
  refine lv_iadd hx hb dL_law_863 ?_
  refine lv_topi (fun x_1 ex_1 => ?_)
  obtain rfl : x_1 = 1 := ex_1.trans (by decide)
  refine va_sld hx hb hX hbl hbA hS (vp_in_iff.mpr ⟨by decide, by rw [hL]; decide⟩) dL_law_864 ?_
  refine lv_topi (fun x_2 ex_2 => ?_)
  obtain rfl : z1 = x_2 := ez1.trans ex_2.symm
  refine lv_aload_n hx hb dL_law_865 rfl (lv_at hl 3 rfl) ?_
  refine lv_iload_n hx hb dL_law_866 rfl (lv_at hl 0 rfl) ?_
  refine lv_iconst (v := 2) hx hb dL_law_867 (by decide) ?_
  refine lv_iadd hx hb dL_law_868 ?_
  refine lv_topi (fun x_3 ex_3 => ?_)
  obtain rfl : x_3 = 2 := ex_3.trans (by decide)
  refine va_sld hx hb hX hbl hbA hS (vp_in_iff.mpr ⟨by decide, by rw [hL]; decide⟩) dL_law_869 ?_
  refine lv_topi (fun x_4 ex_4 => ?_)
  obtain rfl : z2 = x_4 := ez2.trans ex_4.symm
  refine lv_aload_n hx hb dL_law_870 rfl (lv_at hl 3 rfl) ?_
  refine lv_iload_n hx hb dL_law_871 rfl (lv_at hl 0 rfl) ?_
  refine lv_iconst (v := 3) hx hb dL_law_872 (by decide) ?_
  refine lv_iadd hx hb dL_law_873 ?_
  refine lv_topi (fun x_5 ex_5 => ?_)
  obtain rfl : x_5 = 3 := ex_5.trans (by decide)
  refine va_sld hx hb hX hbl hbA hS (vp_in_iff.mpr ⟨by decide, by rw [hL]; decide⟩) dL_law_874 ?_
  refine lv_topi (fun x_6 ex_6 => ?_)
  obtain rfl : z3 = x_6 := ez3.trans ex_6.symm
  refine lv_aload_n hx hb dL_law_875 rfl (lv_at hl 3 rfl) ?_
  refine lv_iload_n hx hb dL_law_876 rfl (lv_at hl 0 rfl) ?_
  refine lv_iconst (v := 4) hx hb dL_law_877 (by decide) ?_
  refine lv_iadd hx hb dL_law_878 ?_
  refine lv_topi (fun x_7 ex_7 => ?_)
  obtain rfl : x_7 = 4 := ex_7.trans (by decide)
  refine va_sld hx hb hX hbl hbA hS (vp_in_iff.mpr ⟨by decide, by rw [hL]; decide⟩) dL_law_879 ?_
  refine lv_topi (fun x_8 ex_8 => ?_)
  obtain rfl : z4 = x_8 := ez4.trans ex_8.symm
  have hPc := hP.sub (ws' := [(h0, .inr (8, [.ref hRows, .ref hMer, .ref hEra, .ref hTape, .ref hRea, .ref hTra, .ref hWor, .ref hPla, .ref hMod, .ref hHe1, .ref hHe2, .int 0, .int 0, .int 0, .int 0, .int (-1), .int 0]))]) [0] rfl
  have hDc := hD.sub (ws' := [(h0, .inr (8, [.ref hRows, .ref hMer, .ref hEra, .ref hTape, .ref hRea, .ref hTra, .ref hWor, .ref hPla, .ref hMod, .ref hHe1, .ref hHe2, .int 0, .int 0, .int 0, .int 0, .int (-1), .int 0]))]) [0] (by decide) rfl
  have hKc := hK.sub (tys' := []) [] rfl
  have hFc := va_free (wc := [(h0, .inr (8, [.ref hRows, .ref hMer, .ref hEra, .ref hTape, .ref hRea, .ref hTra, .ref hWor, .ref hPla, .ref hMod, .ref hHe1, .ref hHe2, .int 0, .int 0, .int 0, .int 0, .int (-1), .int 0]))]) hD hS hA [0] rfl
  refine va_calli (va_runV (As := [.int z1, .int z2, .int z3, .int z4]) (rest := []) ⟨hx, hb, hml, hown, hts⟩ (c_X8_told l dC dI H.size h0 hRows hMer hEra hTape hRea hTra hWor hPla hMod hHe1 hHe2 z1 z2 z3 z4 ) (cwV 4 hts gL_law_X8_told rfl rfl rfl (by decide +kernel) ⟨Nat.le_of_ble_eq_true rfl, Nat.le_of_ble_eq_true rfl⟩) ⟨fun a U g mk q => by obtain ⟨q0, q1, qP, qK, qD, qN⟩ := q; exact ⟨q0, q1, qP, va_K.moved (u := U) (U := U.calling g mk a) (Vm.Alike.refl U.vm) qK, qD, qN.same rfl⟩, va_recv hKc hPc (ci := 8) (q0 := 0) rfl rfl, fun U hU hW => ⟨rfl, by rw [hU], by rw [hU]; exact hPc, va_K.moved hW.alike hKc, hDc.weaken (fun _ _ _ _ => trivial), hN.warm hW⟩⟩ rfl rfl hl.1 rfl (lv_room (Nat.le_of_ble_eq_true rfl)) dL_law_880 ⟨Nat.le_of_ble_eq_true rfl, Nat.le_of_ble_eq_true rfl⟩) hS (fun q _ h => hFc q h) hFc (fun r_9 u_10 t H1 locs ht hvm hw_11 hB hz1 hk1 hS => ?_)
  try dsimp only at hw_11
  have hP1 : va_P (dC, dI) vwCl [] H1 := fun k q h => by simp at h
  have hD1 : va_D (va_A [(h0, .inr (8, [.ref hRows, .ref hMer, .ref hEra, .ref hTape, .ref hRea, .ref hTra, .ref hWor, .ref hPla, .ref hMod, .ref hHe1, .ref hHe2, .int 0, .int 0, .int 0, .int 0, .int (-1), .int 0]))] H.size) [] := ⟨fun i j p q h => by simp at h, fun k q h => by simp at h⟩
  have hK1 : va_K (dC, dI) vwCl [] s := hK.sub [] rfl
  obtain ⟨hP, hD⟩ := va_join (wr := [(m0, .inr (9, [.int 0, .int 0, .int 0, .ref m_rowPerson, .ref m_rowStream, .ref m_rowMoment, .ref m_rowKnown, .ref m_rowValue, .ref m_isGone, .ref m_mergeTo, .ref m_mergeKnown, .int 0, .ref m_isErased, .ref m_tape, .int 0, .int 0, .int 0, .int 0, .int (-1), .int 0, .ref m_five, .int 0, .int 0, .int 0, .int 0, .ref m_size0, .ref m_step, .ref m_stepA, .ref m_stepB, .ref m_stepC, .ref m_values, .ref m_heap, .ref m_isOne, .ref m_lawFrom, .ref m_lawTo, .ref m_hasLaw, .ref m_limits, .ref m_held, .ref m_hasKept, .ref m_kept, .ref m_keptAt, .int 0, .ref m_placeTrait, .ref m_placePerson, .ref m_placeMoment, .ref m_placeValue, .ref m_isFilled, .int 0, .ref m_uses, .ref m_heapsOne, .ref m_heapsOther])), (m_isErased, .inl (k_isErased, 20, .inl (fun _ => 0)))]) (w1 := []) hP hD [0] [1, 2] rfl rfl (by decide) (by decide) hk1 hFc hP1 hD1
  have hK := (hK.sub (tys' := [(k_isErased, .boolean)]) [0] rfl).app hK1
  generalize H1 = H at hP hS ⊢
  have hP : va_P (dC, dI) vwCl [(m0, .inr (9, [.int 0, .int 0, .int 0, .ref m_rowPerson, .ref m_rowStream, .ref m_rowMoment, .ref m_rowKnown, .ref m_rowValue, .ref m_isGone, .ref m_mergeTo, .ref m_mergeKnown, .int 0, .ref m_isErased, .ref m_tape, .int 0, .int 0, .int 0, .int 0, .int (-1), .int 0, .ref m_five, .int 0, .int 0, .int 0, .int 0, .ref m_size0, .ref m_step, .ref m_stepA, .ref m_stepB, .ref m_stepC, .ref m_values, .ref m_heap, .ref m_isOne, .ref m_lawFrom, .ref m_lawTo, .ref m_hasLaw, .ref m_limits, .ref m_held, .ref m_hasKept, .ref m_kept, .ref m_keptAt, .int 0, .ref m_placeTrait, .ref m_placePerson, .ref m_placeMoment, .ref m_placeValue, .ref m_isFilled, .int 0, .ref m_uses, .ref m_heapsOne, .ref m_heapsOther])), (m_isErased, .inl (k_isErased, 20, .inl (fun _ => 0)))] H := hP
  have hD : va_D (fun q : Nat => s.heap.size ≤ q) [(m0, .inr (9, [.int 0, .int 0, .int 0, .ref m_rowPerson, .ref m_rowStream, .ref m_rowMoment, .ref m_rowKnown, .ref m_rowValue, .ref m_isGone, .ref m_mergeTo, .ref m_mergeKnown, .int 0, .ref m_isErased, .ref m_tape, .int 0, .int 0, .int 0, .int 0, .int (-1), .int 0, .ref m_five, .int 0, .int 0, .int 0, .int 0, .ref m_size0, .ref m_step, .ref m_stepA, .ref m_stepB, .ref m_stepC, .ref m_values, .ref m_heap, .ref m_isOne, .ref m_lawFrom, .ref m_lawTo, .ref m_hasLaw, .ref m_limits, .ref m_held, .ref m_hasKept, .ref m_kept, .ref m_keptAt, .int 0, .ref m_placeTrait, .ref m_placePerson, .ref m_placeMoment, .ref m_placeValue, .ref m_isFilled, .int 0, .ref m_uses, .ref m_heapsOne, .ref m_heapsOther])), (m_isErased, .inl (k_isErased, 20, .inl (fun _ => 0)))] := hD
  have hK : va_K (dC, dI) vwCl [(k_isErased, .boolean)] s := hK
  obtain rfl : (-1) = r_9 := hw_11.symm
  refine lv_aload_n hx hb dL_law_883 rfl (lv_at hl 1 rfl) ?_
  refine lv_aload_n hx hb dL_law_884 rfl (lv_at hl 3 rfl) ?_
  refine lv_iload_n hx hb dL_law_885 rfl (lv_at hl 0 rfl) ?_
  refine lv_iconst (v := 1) hx hb dL_law_886 (by decide) ?_
  refine lv_iadd hx hb dL_law_887 ?_
  refine lv_topi (fun x_12 ex_12 => ?_)
  obtain rfl : x_12 = 1 := ex_12.trans (by decide)
  refine va_sld hx hb hX hbl hbA hS (vp_in_iff.mpr ⟨by decide, by rw [hL]; decide⟩) dL_law_888 ?_
  refine lv_topi (fun x_13 ex_13 => ?_)
  obtain rfl : z1 = x_13 := ez1.trans ex_13.symm
  refine lv_aload_n hx hb dL_law_889 rfl (lv_at hl 3 rfl) ?_
  refine lv_iload_n hx hb dL_law_890 rfl (lv_at hl 0 rfl) ?_
  refine lv_iconst (v := 2) hx hb dL_law_891 (by decide) ?_
  refine lv_iadd hx hb dL_law_892 ?_
  refine lv_topi (fun x_14 ex_14 => ?_)
  obtain rfl : x_14 = 2 := ex_14.trans (by decide)
  refine va_sld hx hb hX hbl hbA hS (vp_in_iff.mpr ⟨by decide, by rw [hL]; decide⟩) dL_law_893 ?_
  refine lv_topi (fun x_15 ex_15 => ?_)
  obtain rfl : z2 = x_15 := ez2.trans ex_15.symm
  refine lv_aload_n hx hb dL_law_894 rfl (lv_at hl 3 rfl) ?_
  refine lv_iload_n hx hb dL_law_895 rfl (lv_at hl 0 rfl) ?_
  refine lv_iconst (v := 3) hx hb dL_law_896 (by decide) ?_
  refine lv_iadd hx hb dL_law_897 ?_
  refine lv_topi (fun x_16 ex_16 => ?_)
  obtain rfl : x_16 = 3 := ex_16.trans (by decide)
  refine va_sld hx hb hX hbl hbA hS (vp_in_iff.mpr ⟨by decide, by rw [hL]; decide⟩) dL_law_898 ?_
  refine lv_topi (fun x_17 ex_17 => ?_)
  obtain rfl : z3 = x_17 := ez3.trans ex_17.symm
  refine lv_aload_n hx hb dL_law_899 rfl (lv_at hl 3 rfl) ?_
  refine lv_iload_n hx hb dL_law_900 rfl (lv_at hl 0 rfl) ?_
  refine lv_iconst (v := 4) hx hb dL_law_901 (by decide) ?_
  refine lv_iadd hx hb dL_law_902 ?_
  refine lv_topi (fun x_18 ex_18 => ?_)
  obtain rfl : x_18 = 4 := ex_18.trans (by decide)
  refine va_sld hx hb hX hbl hbA hS (vp_in_iff.mpr ⟨by decide, by rw [hL]; decide⟩) dL_law_903 ?_
  refine lv_topi (fun x_19 ex_19 => ?_)
  obtain rfl : z4 = x_19 := ez4.trans ex_19.symm
  have hPc := hP.sub (ws' := [(m0, .inr (9, [.int 0, .int 0, .int 0, .ref m_rowPerson, .ref m_rowStream, .ref m_rowMoment, .ref m_rowKnown, .ref m_rowValue, .ref m_isGone, .ref m_mergeTo, .ref m_mergeKnown, .int 0, .ref m_isErased, .ref m_tape, .int 0, .int 0, .int 0, .int 0, .int (-1), .int 0, .ref m_five, .int 0, .int 0, .int 0, .int 0, .ref m_size0, .ref m_step, .ref m_stepA, .ref m_stepB, .ref m_stepC, .ref m_values, .ref m_heap, .ref m_isOne, .ref m_lawFrom, .ref m_lawTo, .ref m_hasLaw, .ref m_limits, .ref m_held, .ref m_hasKept, .ref m_kept, .ref m_keptAt, .int 0, .ref m_placeTrait, .ref m_placePerson, .ref m_placeMoment, .ref m_placeValue, .ref m_isFilled, .int 0, .ref m_uses, .ref m_heapsOne, .ref m_heapsOther])), (m_isErased, .inl (k_isErased, 20, .inl (fun _ => 0)))]) [0, 1] rfl
  have hDc := hD.sub (ws' := [(m0, .inr (9, [.int 0, .int 0, .int 0, .ref m_rowPerson, .ref m_rowStream, .ref m_rowMoment, .ref m_rowKnown, .ref m_rowValue, .ref m_isGone, .ref m_mergeTo, .ref m_mergeKnown, .int 0, .ref m_isErased, .ref m_tape, .int 0, .int 0, .int 0, .int 0, .int (-1), .int 0, .ref m_five, .int 0, .int 0, .int 0, .int 0, .ref m_size0, .ref m_step, .ref m_stepA, .ref m_stepB, .ref m_stepC, .ref m_values, .ref m_heap, .ref m_isOne, .ref m_lawFrom, .ref m_lawTo, .ref m_hasLaw, .ref m_limits, .ref m_held, .ref m_hasKept, .ref m_kept, .ref m_keptAt, .int 0, .ref m_placeTrait, .ref m_placePerson, .ref m_placeMoment, .ref m_placeValue, .ref m_isFilled, .int 0, .ref m_uses, .ref m_heapsOne, .ref m_heapsOther])), (m_isErased, .inl (k_isErased, 20, .inl (fun _ => 0)))]) [0, 1] (by decide) rfl
  have hKc := hK.sub (tys' := [(k_isErased, .boolean)]) [0] rfl
  have hFc := va_free (wc := [(m0, .inr (9, [.int 0, .int 0, .int 0, .ref m_rowPerson, .ref m_rowStream, .ref m_rowMoment, .ref m_rowKnown, .ref m_rowValue, .ref m_isGone, .ref m_mergeTo, .ref m_mergeKnown, .int 0, .ref m_isErased, .ref m_tape, .int 0, .int 0, .int 0, .int 0, .int (-1), .int 0, .ref m_five, .int 0, .int 0, .int 0, .int 0, .ref m_size0, .ref m_step, .ref m_stepA, .ref m_stepB, .ref m_stepC, .ref m_values, .ref m_heap, .ref m_isOne, .ref m_lawFrom, .ref m_lawTo, .ref m_hasLaw, .ref m_limits, .ref m_held, .ref m_hasKept, .ref m_kept, .ref m_keptAt, .int 0, .ref m_placeTrait, .ref m_placePerson, .ref m_placeMoment, .ref m_placeValue, .ref m_isFilled, .int 0, .ref m_uses, .ref m_heapsOne, .ref m_heapsOther])), (m_isErased, .inl (k_isErased, 20, .inl (fun _ => 0)))]) hD hS hA [0, 1] rfl
  refine va_calli (va_runV (As := [.int z1, .int z2, .int z3, .int z4]) (rest := [.int (-1)]) ⟨hx, hb, hml, hown, hts⟩ (c_X9_told l dC dI H.size m0 m_rowPerson m_rowStream m_rowMoment m_rowKnown m_rowValue m_isGone m_mergeTo m_mergeKnown m_isErased m_tape m_five m_size0 m_step m_stepA m_stepB m_stepC m_values m_heap m_isOne m_lawFrom m_lawTo m_hasLaw m_limits m_held m_hasKept m_kept m_keptAt m_placeTrait m_placePerson m_placeMoment m_placeValue m_isFilled m_uses m_heapsOne m_heapsOther k_isErased z1 z2 z3 z4 ) (cwV 4 hts gL_law_X9_told rfl rfl rfl (by decide +kernel) ⟨Nat.le_of_ble_eq_true rfl, Nat.le_of_ble_eq_true rfl⟩) ⟨fun a U g mk q => by obtain ⟨q0, q1, qP, qK, qD, qN⟩ := q; exact ⟨q0, q1, qP, va_K.moved (u := U) (U := U.calling g mk a) (Vm.Alike.refl U.vm) qK, qD, qN.same rfl⟩, va_recv hKc hPc (ci := 9) (q0 := 0) rfl rfl, fun U hU hW => ⟨rfl, by rw [hU], by rw [hU]; exact hPc, va_K.moved hW.alike hKc, hDc.weaken (fun _ _ _ _ => trivial), hN.warm hW⟩⟩ rfl rfl hl.1 rfl (lv_room (Nat.le_of_ble_eq_true rfl)) dL_law_904 ⟨Nat.le_of_ble_eq_true rfl, Nat.le_of_ble_eq_true rfl⟩) hS (fun q _ h => hFc q h) hFc (fun r_20 u_21 t H1 locs ht hvm hw_22 hB hz1 hk1 hS => ?_)
  try dsimp only at hw_22
  have hP1 : va_P (dC, dI) vwCl [] H1 := fun k q h => by simp at h
  have hD1 : va_D (va_A [(m0, .inr (9, [.int 0, .int 0, .int 0, .ref m_rowPerson, .ref m_rowStream, .ref m_rowMoment, .ref m_rowKnown, .ref m_rowValue, .ref m_isGone, .ref m_mergeTo, .ref m_mergeKnown, .int 0, .ref m_isErased, .ref m_tape, .int 0, .int 0, .int 0, .int 0, .int (-1), .int 0, .ref m_five, .int 0, .int 0, .int 0, .int 0, .ref m_size0, .ref m_step, .ref m_stepA, .ref m_stepB, .ref m_stepC, .ref m_values, .ref m_heap, .ref m_isOne, .ref m_lawFrom, .ref m_lawTo, .ref m_hasLaw, .ref m_limits, .ref m_held, .ref m_hasKept, .ref m_kept, .ref m_keptAt, .int 0, .ref m_placeTrait, .ref m_placePerson, .ref m_placeMoment, .ref m_placeValue, .ref m_isFilled, .int 0, .ref m_uses, .ref m_heapsOne, .ref m_heapsOther])), (m_isErased, .inl (k_isErased, 20, .inl (fun _ => 0)))] H.size) [] := ⟨fun i j p q h => by simp at h, fun k q h => by simp at h⟩
  have hK1 : va_K (dC, dI) vwCl [] s := hK.sub [] rfl
  obtain ⟨hP, hD⟩ := va_join (wr := []) (w1 := []) hP hD [0, 1] [] rfl rfl (by decide) (by decide) hk1 hFc hP1 hD1
  have hK := (hK.sub (tys' := [(k_isErased, .boolean)]) [0] rfl).app hK1
  generalize H1 = H at hP hS ⊢
  have hP : va_P (dC, dI) vwCl [] H := hP
  have hD : va_D (fun q : Nat => s.heap.size ≤ q) [] := hD
  have hK : va_K (dC, dI) vwCl [(k_isErased, .boolean)] s := hK
  obtain rfl : (-1) = r_20 := hw_22.symm
  refine lv_icmp_eq (tgt := 1234) hx hb dL_law_907 (by decide) (fun c_23 => ?_) (fun c_23 => ?_)
  · exact law_tail hL C0 hS (lv_sub hl [0, 3] rfl)
  · exact absurd rfl c_23

set_option maxHeartbeats 4000000 in
set_option maxRecDepth 100000 in
theorem law_model {p : Program} {l : Launch} {e : Env} {s : State} {m : MethodId} {below : List Frame} {meth : Method} {c : Code} {dC : Nat → ClassId} {dI : Nat → Nat → Nat} {b L : Nat} {xs : Nat → Int32} (hL : L = 11) (C0 : lw_At p s m meth c b L xs) (hN : nw_ok s) (h0 : Nat) (hRows : Nat) (hMer : Nat) (hEra : Nat) (hTape : Nat) (hRea : Nat) (hTra : Nat) (hWor : Nat) (hPla : Nat) (hMod : Nat) (hHe1 : Nat) (hHe2 : Nat) (cMo : ClassId) (m0 : Nat) (m_rowPerson : Nat) (m_rowStream : Nat) (m_rowMoment : Nat) (m_rowKnown : Nat) (m_rowValue : Nat) (m_isGone : Nat) (m_mergeTo : Nat) (m_mergeKnown : Nat) (m_isErased : Nat) (m_tape : Nat) (m_five : Nat) (m_size0 : Nat) (m_step : Nat) (m_stepA : Nat) (m_stepB : Nat) (m_stepC : Nat) (m_values : Nat) (m_heap : Nat) (m_isOne : Nat) (m_lawFrom : Nat) (m_lawTo : Nat) (m_hasLaw : Nat) (m_limits : Nat) (m_held : Nat) (m_hasKept : Nat) (m_kept : Nat) (m_keptAt : Nat) (m_placeTrait : Nat) (m_placePerson : Nat) (m_placeMoment : Nat) (m_placeValue : Nat) (m_isFilled : Nat) (m_uses : Nat) (m_heapsOne : Nat) (m_heapsOther : Nat) (k_uses : ClassId)  (H : Heap) (locs : List Loc) (hK : va_K (dC, dI) vwCl [(cMo, .int), (k_uses, .int)] s) (hP : va_P (dC, dI) vwCl [(h0, .inr (8, [.ref hRows, .ref hMer, .ref hEra, .ref hTape, .ref hRea, .ref hTra, .ref hWor, .ref hPla, .ref hMod, .ref hHe1, .ref hHe2, .int 0, .int 0, .int 0, .int 0, .int (-1), .int 0])), (hMod, .inl (cMo, 10, .inl (fun _ => 0))), (m0, .inr (9, [.int 0, .int 0, .int 0, .ref m_rowPerson, .ref m_rowStream, .ref m_rowMoment, .ref m_rowKnown, .ref m_rowValue, .ref m_isGone, .ref m_mergeTo, .ref m_mergeKnown, .int 0, .ref m_isErased, .ref m_tape, .int 0, .int 0, .int 0, .int 0, .int (-1), .int 0, .ref m_five, .int 0, .int 0, .int 0, .int 0, .ref m_size0, .ref m_step, .ref m_stepA, .ref m_stepB, .ref m_stepC, .ref m_values, .ref m_heap, .ref m_isOne, .ref m_lawFrom, .ref m_lawTo, .ref m_hasLaw, .ref m_limits, .ref m_held, .ref m_hasKept, .ref m_kept, .ref m_keptAt, .int 0, .ref m_placeTrait, .ref m_placePerson, .ref m_placeMoment, .ref m_placeValue, .ref m_isFilled, .int 0, .ref m_uses, .ref m_heapsOne, .ref m_heapsOther])), (m_uses, .inl (k_uses, 10, .inl (fun _ => 0)))] H) (hD : va_D (fun q : Nat => s.heap.size ≤ q) [(h0, .inr (8, [.ref hRows, .ref hMer, .ref hEra, .ref hTape, .ref hRea, .ref hTra, .ref hWor, .ref hPla, .ref hMod, .ref hHe1, .ref hHe2, .int 0, .int 0, .int 0, .int 0, .int (-1), .int 0])), (hMod, .inl (cMo, 10, .inl (fun _ => 0))), (m0, .inr (9, [.int 0, .int 0, .int 0, .ref m_rowPerson, .ref m_rowStream, .ref m_rowMoment, .ref m_rowKnown, .ref m_rowValue, .ref m_isGone, .ref m_mergeTo, .ref m_mergeKnown, .int 0, .ref m_isErased, .ref m_tape, .int 0, .int 0, .int 0, .int 0, .int (-1), .int 0, .ref m_five, .int 0, .int 0, .int 0, .int 0, .ref m_size0, .ref m_step, .ref m_stepA, .ref m_stepB, .ref m_stepC, .ref m_values, .ref m_heap, .ref m_isOne, .ref m_lawFrom, .ref m_lawTo, .ref m_hasLaw, .ref m_limits, .ref m_held, .ref m_hasKept, .ref m_kept, .ref m_keptAt, .int 0, .ref m_placeTrait, .ref m_placePerson, .ref m_placeMoment, .ref m_placeValue, .ref m_isFilled, .int 0, .ref m_uses, .ref m_heapsOne, .ref m_heapsOther])), (m_uses, .inl (k_uses, 10, .inl (fun _ => 0)))]) (hS : va_S (fun q : Nat => s.heap.size ≤ q) s.heap H locs) (ls : Array Slot) (hl : lv_has ls 4 [(3, .int 0), (2, .ref m0), (1, .ref h0), (0, .ref b)]) : W p l e room_1 s m #[Value.ref b] below meth c H locs 600000 7302250 (lw_Z below #[Value.ref b] s) (F0 m 912 ls []) := by
  obtain ⟨hx, hb, hr, hml, hown, hts, hX, hbl, hlocks, hgv⟩ := id C0
  have hts := fun w h => hts w (wsL_law_in w h)
  have hown : s.vm.findClass RL = some m.cls := hown
  have hA : ∀ q : Nat, s.heap.size ≤ q → (fun q : Nat => s.heap.size ≤ q) q := fun _ h => h
  have hbA : ¬ (fun q : Nat => s.heap.size ≤ q) b := Nat.not_le.mpr hbl
  obtain ⟨z1, ez1⟩ : ∃ z : Int32, z = xs (1 : Int32).toNatClampNeg := ⟨_, rfl⟩
  refine lv_aload_n hx hb dL_law_912 rfl (lv_at hl 2 rfl) ?_
  refine lv_aload_n hx hb dL_law_913 rfl (lv_at hl 3 rfl) ?_
  refine lv_iload_n hx hb dL_law_914 rfl (lv_at hl 0 rfl) ?_
  refine lv_iconst (v := 1) hx hb dL_law_915 (by decide) ?_
  refine lv_iadd hx hb dL_law_916 ?_
  refine lv_topi (fun x_1 ex_1 => ?_)
  obtain rfl : x_1 = 1 := ex_1.trans (by decide)
  refine va_sld hx hb hX hbl hbA hS (vp_in_iff.mpr ⟨by decide, by rw [hL]; decide⟩) dL_law_917 ?_
  refine lv_topi (fun x_2 ex_2 => ?_)
  obtain rfl : z1 = x_2 := ez1.trans ex_2.symm
  have hPc := hP.sub (ws' := [(h0, .inr (8, [.ref hRows, .ref hMer, .ref hEra, .ref hTape, .ref hRea, .ref hTra, .ref hWor, .ref hPla, .ref hMod, .ref hHe1, .ref hHe2, .int 0, .int 0, .int 0, .int 0, .int (-1), .int 0])), (hMod, .inl (cMo, 10, .inl (fun _ => 0)))]) [0, 1] rfl
  have hDc := hD.sub (ws' := [(h0, .inr (8, [.ref hRows, .ref hMer, .ref hEra, .ref hTape, .ref hRea, .ref hTra, .ref hWor, .ref hPla, .ref hMod, .ref hHe1, .ref hHe2, .int 0, .int 0, .int 0, .int 0, .int (-1), .int 0])), (hMod, .inl (cMo, 10, .inl (fun _ => 0)))]) [0, 1] (by decide) rfl
  have hKc := hK.sub (tys' := [(cMo, .int)]) [0] rfl
  have hFc := va_free (wc := [(h0, .inr (8, [.ref hRows, .ref hMer, .ref hEra, .ref hTape, .ref hRea, .ref hTra, .ref hWor, .ref hPla, .ref hMod, .ref hHe1, .ref hHe2, .int 0, .int 0, .int 0, .int 0, .int (-1), .int 0])), (hMod, .inl (cMo, 10, .inl (fun _ => 0)))]) hD hS hA [0, 1] rfl
  refine va_calli (va_runV (As := [.int z1]) (rest := []) ⟨hx, hb, hml, hown, hts⟩ (c_X8_model l dC dI H.size h0 hRows hMer hEra hTape hRea hTra hWor hPla hMod hHe1 hHe2 cMo z1 ) (cwV 1 hts gL_law_X8_model rfl rfl rfl (by decide +kernel) ⟨Nat.le_of_ble_eq_true rfl, Nat.le_of_ble_eq_true rfl⟩) ⟨fun a U g mk q => by obtain ⟨q0, q1, qP, qK, qD, qN⟩ := q; exact ⟨q0, q1, qP, va_K.moved (u := U) (U := U.calling g mk a) (Vm.Alike.refl U.vm) qK, qD, qN.same rfl⟩, va_recv hKc hPc (ci := 8) (q0 := 0) rfl rfl, fun U hU hW => ⟨rfl, by rw [hU], by rw [hU]; exact hPc, va_K.moved hW.alike hKc, hDc.weaken (fun _ _ _ _ => trivial), hN.warm hW⟩⟩ rfl rfl hl.1 rfl (lv_room (Nat.le_of_ble_eq_true rfl)) dL_law_918 ⟨Nat.le_of_ble_eq_true rfl, Nat.le_of_ble_eq_true rfl⟩) hS (fun q _ h => hFc q h) hFc (fun r_3 u_4 t H1 locs ht hvm hw_5 hB hz1 hk1 hS => ?_)
  try dsimp only at hw_5
  have hP1 : va_P (dC, dI) vwCl [] H1 := fun k q h => by simp at h
  have hD1 : va_D (va_A [(h0, .inr (8, [.ref hRows, .ref hMer, .ref hEra, .ref hTape, .ref hRea, .ref hTra, .ref hWor, .ref hPla, .ref hMod, .ref hHe1, .ref hHe2, .int 0, .int 0, .int 0, .int 0, .int (-1), .int 0])), (hMod, .inl (cMo, 10, .inl (fun _ => 0)))] H.size) [] := ⟨fun i j p q h => by simp at h, fun k q h => by simp at h⟩
  have hK1 : va_K (dC, dI) vwCl [] s := hK.sub [] rfl
  obtain ⟨hP, hD⟩ := va_join (wr := [(m0, .inr (9, [.int 0, .int 0, .int 0, .ref m_rowPerson, .ref m_rowStream, .ref m_rowMoment, .ref m_rowKnown, .ref m_rowValue, .ref m_isGone, .ref m_mergeTo, .ref m_mergeKnown, .int 0, .ref m_isErased, .ref m_tape, .int 0, .int 0, .int 0, .int 0, .int (-1), .int 0, .ref m_five, .int 0, .int 0, .int 0, .int 0, .ref m_size0, .ref m_step, .ref m_stepA, .ref m_stepB, .ref m_stepC, .ref m_values, .ref m_heap, .ref m_isOne, .ref m_lawFrom, .ref m_lawTo, .ref m_hasLaw, .ref m_limits, .ref m_held, .ref m_hasKept, .ref m_kept, .ref m_keptAt, .int 0, .ref m_placeTrait, .ref m_placePerson, .ref m_placeMoment, .ref m_placeValue, .ref m_isFilled, .int 0, .ref m_uses, .ref m_heapsOne, .ref m_heapsOther])), (m_uses, .inl (k_uses, 10, .inl (fun _ => 0)))]) (w1 := []) hP hD [0, 1] [2, 3] rfl rfl (by decide) (by decide) hk1 hFc hP1 hD1
  have hK := (hK.sub (tys' := [(cMo, .int), (k_uses, .int)]) [0, 1] rfl).app hK1
  generalize H1 = H at hP hS ⊢
  have hP : va_P (dC, dI) vwCl [(m0, .inr (9, [.int 0, .int 0, .int 0, .ref m_rowPerson, .ref m_rowStream, .ref m_rowMoment, .ref m_rowKnown, .ref m_rowValue, .ref m_isGone, .ref m_mergeTo, .ref m_mergeKnown, .int 0, .ref m_isErased, .ref m_tape, .int 0, .int 0, .int 0, .int 0, .int (-1), .int 0, .ref m_five, .int 0, .int 0, .int 0, .int 0, .ref m_size0, .ref m_step, .ref m_stepA, .ref m_stepB, .ref m_stepC, .ref m_values, .ref m_heap, .ref m_isOne, .ref m_lawFrom, .ref m_lawTo, .ref m_hasLaw, .ref m_limits, .ref m_held, .ref m_hasKept, .ref m_kept, .ref m_keptAt, .int 0, .ref m_placeTrait, .ref m_placePerson, .ref m_placeMoment, .ref m_placeValue, .ref m_isFilled, .int 0, .ref m_uses, .ref m_heapsOne, .ref m_heapsOther])), (m_uses, .inl (k_uses, 10, .inl (fun _ => 0)))] H := hP
  have hD : va_D (fun q : Nat => s.heap.size ≤ q) [(m0, .inr (9, [.int 0, .int 0, .int 0, .ref m_rowPerson, .ref m_rowStream, .ref m_rowMoment, .ref m_rowKnown, .ref m_rowValue, .ref m_isGone, .ref m_mergeTo, .ref m_mergeKnown, .int 0, .ref m_isErased, .ref m_tape, .int 0, .int 0, .int 0, .int 0, .int (-1), .int 0, .ref m_five, .int 0, .int 0, .int 0, .int 0, .ref m_size0, .ref m_step, .ref m_stepA, .ref m_stepB, .ref m_stepC, .ref m_values, .ref m_heap, .ref m_isOne, .ref m_lawFrom, .ref m_lawTo, .ref m_hasLaw, .ref m_limits, .ref m_held, .ref m_hasKept, .ref m_kept, .ref m_keptAt, .int 0, .ref m_placeTrait, .ref m_placePerson, .ref m_placeMoment, .ref m_placeValue, .ref m_isFilled, .int 0, .ref m_uses, .ref m_heapsOne, .ref m_heapsOther])), (m_uses, .inl (k_uses, 10, .inl (fun _ => 0)))] := hD
  have hK : va_K (dC, dI) vwCl [(cMo, .int), (k_uses, .int)] s := hK
  refine lv_aload_n hx hb dL_law_921 rfl (lv_at hl 1 rfl) ?_
  refine lv_aload_n hx hb dL_law_922 rfl (lv_at hl 3 rfl) ?_
  refine lv_iload_n hx hb dL_law_923 rfl (lv_at hl 0 rfl) ?_
  refine lv_iconst (v := 1) hx hb dL_law_924 (by decide) ?_
  refine lv_iadd hx hb dL_law_925 ?_
  refine lv_topi (fun x_6 ex_6 => ?_)
  obtain rfl : x_6 = 1 := ex_6.trans (by decide)
  refine va_sld hx hb hX hbl hbA hS (vp_in_iff.mpr ⟨by decide, by rw [hL]; decide⟩) dL_law_926 ?_
  refine lv_topi (fun x_7 ex_7 => ?_)
  obtain rfl : z1 = x_7 := ez1.trans ex_7.symm
  have hPc := hP.sub (ws' := [(m0, .inr (9, [.int 0, .int 0, .int 0, .ref m_rowPerson, .ref m_rowStream, .ref m_rowMoment, .ref m_rowKnown, .ref m_rowValue, .ref m_isGone, .ref m_mergeTo, .ref m_mergeKnown, .int 0, .ref m_isErased, .ref m_tape, .int 0, .int 0, .int 0, .int 0, .int (-1), .int 0, .ref m_five, .int 0, .int 0, .int 0, .int 0, .ref m_size0, .ref m_step, .ref m_stepA, .ref m_stepB, .ref m_stepC, .ref m_values, .ref m_heap, .ref m_isOne, .ref m_lawFrom, .ref m_lawTo, .ref m_hasLaw, .ref m_limits, .ref m_held, .ref m_hasKept, .ref m_kept, .ref m_keptAt, .int 0, .ref m_placeTrait, .ref m_placePerson, .ref m_placeMoment, .ref m_placeValue, .ref m_isFilled, .int 0, .ref m_uses, .ref m_heapsOne, .ref m_heapsOther])), (m_uses, .inl (k_uses, 10, .inl (fun _ => 0)))]) [0, 1] rfl
  have hDc := hD.sub (ws' := [(m0, .inr (9, [.int 0, .int 0, .int 0, .ref m_rowPerson, .ref m_rowStream, .ref m_rowMoment, .ref m_rowKnown, .ref m_rowValue, .ref m_isGone, .ref m_mergeTo, .ref m_mergeKnown, .int 0, .ref m_isErased, .ref m_tape, .int 0, .int 0, .int 0, .int 0, .int (-1), .int 0, .ref m_five, .int 0, .int 0, .int 0, .int 0, .ref m_size0, .ref m_step, .ref m_stepA, .ref m_stepB, .ref m_stepC, .ref m_values, .ref m_heap, .ref m_isOne, .ref m_lawFrom, .ref m_lawTo, .ref m_hasLaw, .ref m_limits, .ref m_held, .ref m_hasKept, .ref m_kept, .ref m_keptAt, .int 0, .ref m_placeTrait, .ref m_placePerson, .ref m_placeMoment, .ref m_placeValue, .ref m_isFilled, .int 0, .ref m_uses, .ref m_heapsOne, .ref m_heapsOther])), (m_uses, .inl (k_uses, 10, .inl (fun _ => 0)))]) [0, 1] (by decide) rfl
  have hKc := hK.sub (tys' := [(k_uses, .int)]) [1] rfl
  have hFc := va_free (wc := [(m0, .inr (9, [.int 0, .int 0, .int 0, .ref m_rowPerson, .ref m_rowStream, .ref m_rowMoment, .ref m_rowKnown, .ref m_rowValue, .ref m_isGone, .ref m_mergeTo, .ref m_mergeKnown, .int 0, .ref m_isErased, .ref m_tape, .int 0, .int 0, .int 0, .int 0, .int (-1), .int 0, .ref m_five, .int 0, .int 0, .int 0, .int 0, .ref m_size0, .ref m_step, .ref m_stepA, .ref m_stepB, .ref m_stepC, .ref m_values, .ref m_heap, .ref m_isOne, .ref m_lawFrom, .ref m_lawTo, .ref m_hasLaw, .ref m_limits, .ref m_held, .ref m_hasKept, .ref m_kept, .ref m_keptAt, .int 0, .ref m_placeTrait, .ref m_placePerson, .ref m_placeMoment, .ref m_placeValue, .ref m_isFilled, .int 0, .ref m_uses, .ref m_heapsOne, .ref m_heapsOther])), (m_uses, .inl (k_uses, 10, .inl (fun _ => 0)))]) hD hS hA [0, 1] rfl
  refine va_calli (va_runV (As := [.int z1]) (rest := [.int r_3]) ⟨hx, hb, hml, hown, hts⟩ (c_X9_model l dC dI H.size m0 m_rowPerson m_rowStream m_rowMoment m_rowKnown m_rowValue m_isGone m_mergeTo m_mergeKnown m_isErased m_tape m_five m_size0 m_step m_stepA m_stepB m_stepC m_values m_heap m_isOne m_lawFrom m_lawTo m_hasLaw m_limits m_held m_hasKept m_kept m_keptAt m_placeTrait m_placePerson m_placeMoment m_placeValue m_isFilled m_uses m_heapsOne m_heapsOther k_uses z1 ) (cwV 1 hts gL_law_X9_model rfl rfl rfl (by decide +kernel) ⟨Nat.le_of_ble_eq_true rfl, Nat.le_of_ble_eq_true rfl⟩) ⟨fun a U g mk q => by obtain ⟨q0, q1, qP, qK, qD, qN⟩ := q; exact ⟨q0, q1, qP, va_K.moved (u := U) (U := U.calling g mk a) (Vm.Alike.refl U.vm) qK, qD, qN.same rfl⟩, va_recv hKc hPc (ci := 9) (q0 := 0) rfl rfl, fun U hU hW => ⟨rfl, by rw [hU], by rw [hU]; exact hPc, va_K.moved hW.alike hKc, hDc.weaken (fun _ _ _ _ => trivial), hN.warm hW⟩⟩ rfl rfl hl.1 rfl (lv_room (Nat.le_of_ble_eq_true rfl)) dL_law_927 ⟨Nat.le_of_ble_eq_true rfl, Nat.le_of_ble_eq_true rfl⟩) hS (fun q _ h => hFc q h) hFc (fun r_8 u_9 t H1 locs ht hvm hw_10 hB hz1 hk1 hS => ?_)
  try dsimp only at hw_10
  have hP1 : va_P (dC, dI) vwCl [] H1 := fun k q h => by simp at h
  have hD1 : va_D (va_A [(m0, .inr (9, [.int 0, .int 0, .int 0, .ref m_rowPerson, .ref m_rowStream, .ref m_rowMoment, .ref m_rowKnown, .ref m_rowValue, .ref m_isGone, .ref m_mergeTo, .ref m_mergeKnown, .int 0, .ref m_isErased, .ref m_tape, .int 0, .int 0, .int 0, .int 0, .int (-1), .int 0, .ref m_five, .int 0, .int 0, .int 0, .int 0, .ref m_size0, .ref m_step, .ref m_stepA, .ref m_stepB, .ref m_stepC, .ref m_values, .ref m_heap, .ref m_isOne, .ref m_lawFrom, .ref m_lawTo, .ref m_hasLaw, .ref m_limits, .ref m_held, .ref m_hasKept, .ref m_kept, .ref m_keptAt, .int 0, .ref m_placeTrait, .ref m_placePerson, .ref m_placeMoment, .ref m_placeValue, .ref m_isFilled, .int 0, .ref m_uses, .ref m_heapsOne, .ref m_heapsOther])), (m_uses, .inl (k_uses, 10, .inl (fun _ => 0)))] H.size) [] := ⟨fun i j p q h => by simp at h, fun k q h => by simp at h⟩
  have hK1 : va_K (dC, dI) vwCl [] s := hK.sub [] rfl
  obtain ⟨hP, hD⟩ := va_join (wr := []) (w1 := []) hP hD [0, 1] [] rfl rfl (by decide) (by decide) hk1 hFc hP1 hD1
  have hK := (hK.sub (tys' := [(cMo, .int), (k_uses, .int)]) [0, 1] rfl).app hK1
  generalize H1 = H at hP hS ⊢
  have hP : va_P (dC, dI) vwCl [] H := hP
  have hD : va_D (fun q : Nat => s.heap.size ≤ q) [] := hD
  have hK : va_K (dC, dI) vwCl [(cMo, .int), (k_uses, .int)] s := hK
  refine lv_icmp_eq (tgt := 1234) hx hb dL_law_930 (by decide) (fun c_11 => ?_) (fun c_11 => ?_)
  · exact law_tail hL C0 hS (lv_sub hl [0, 3] rfl)
  · have dc_11 : ¬ r_3.toInt = r_8.toInt := jI_ne c_11 rfl rfl
    exfalso; omega

set_option maxHeartbeats 4000000 in
set_option maxRecDepth 100000 in
theorem law_needed {p : Program} {l : Launch} {e : Env} {s : State} {m : MethodId} {below : List Frame} {meth : Method} {c : Code} {dC : Nat → ClassId} {dI : Nat → Nat → Nat} {b L : Nat} {xs : Nat → Int32} (hL : L = 11) (C0 : lw_At p s m meth c b L xs) (hN : nw_ok s) (h0 : Nat) (hRows : Nat) (hMer : Nat) (hEra : Nat) (hTape : Nat) (hRea : Nat) (hTra : Nat) (hWor : Nat) (hPla : Nat) (hMod : Nat) (hHe1 : Nat) (hHe2 : Nat) (m0 : Nat) (m_rowPerson : Nat) (m_rowStream : Nat) (m_rowMoment : Nat) (m_rowKnown : Nat) (m_rowValue : Nat) (m_isGone : Nat) (m_mergeTo : Nat) (m_mergeKnown : Nat) (m_isErased : Nat) (m_tape : Nat) (m_five : Nat) (m_size0 : Nat) (m_step : Nat) (m_stepA : Nat) (m_stepB : Nat) (m_stepC : Nat) (m_values : Nat) (m_heap : Nat) (m_isOne : Nat) (m_lawFrom : Nat) (m_lawTo : Nat) (m_hasLaw : Nat) (m_limits : Nat) (m_held : Nat) (m_hasKept : Nat) (m_kept : Nat) (m_keptAt : Nat) (m_placeTrait : Nat) (m_placePerson : Nat) (m_placeMoment : Nat) (m_placeValue : Nat) (m_isFilled : Nat) (m_uses : Nat) (m_heapsOne : Nat) (m_heapsOther : Nat)  (H : Heap) (locs : List Loc) (hK : va_K (dC, dI) vwCl [] s) (hP : va_P (dC, dI) vwCl [(h0, .inr (8, [.ref hRows, .ref hMer, .ref hEra, .ref hTape, .ref hRea, .ref hTra, .ref hWor, .ref hPla, .ref hMod, .ref hHe1, .ref hHe2, .int 0, .int 0, .int 0, .int 0, .int (-1), .int 0])), (m0, .inr (9, [.int 0, .int 0, .int 0, .ref m_rowPerson, .ref m_rowStream, .ref m_rowMoment, .ref m_rowKnown, .ref m_rowValue, .ref m_isGone, .ref m_mergeTo, .ref m_mergeKnown, .int 0, .ref m_isErased, .ref m_tape, .int 0, .int 0, .int 0, .int 0, .int (-1), .int 0, .ref m_five, .int 0, .int 0, .int 0, .int 0, .ref m_size0, .ref m_step, .ref m_stepA, .ref m_stepB, .ref m_stepC, .ref m_values, .ref m_heap, .ref m_isOne, .ref m_lawFrom, .ref m_lawTo, .ref m_hasLaw, .ref m_limits, .ref m_held, .ref m_hasKept, .ref m_kept, .ref m_keptAt, .int 0, .ref m_placeTrait, .ref m_placePerson, .ref m_placeMoment, .ref m_placeValue, .ref m_isFilled, .int 0, .ref m_uses, .ref m_heapsOne, .ref m_heapsOther]))] H) (hD : va_D (fun q : Nat => s.heap.size ≤ q) [(h0, .inr (8, [.ref hRows, .ref hMer, .ref hEra, .ref hTape, .ref hRea, .ref hTra, .ref hWor, .ref hPla, .ref hMod, .ref hHe1, .ref hHe2, .int 0, .int 0, .int 0, .int 0, .int (-1), .int 0])), (m0, .inr (9, [.int 0, .int 0, .int 0, .ref m_rowPerson, .ref m_rowStream, .ref m_rowMoment, .ref m_rowKnown, .ref m_rowValue, .ref m_isGone, .ref m_mergeTo, .ref m_mergeKnown, .int 0, .ref m_isErased, .ref m_tape, .int 0, .int 0, .int 0, .int 0, .int (-1), .int 0, .ref m_five, .int 0, .int 0, .int 0, .int 0, .ref m_size0, .ref m_step, .ref m_stepA, .ref m_stepB, .ref m_stepC, .ref m_values, .ref m_heap, .ref m_isOne, .ref m_lawFrom, .ref m_lawTo, .ref m_hasLaw, .ref m_limits, .ref m_held, .ref m_hasKept, .ref m_kept, .ref m_keptAt, .int 0, .ref m_placeTrait, .ref m_placePerson, .ref m_placeMoment, .ref m_placeValue, .ref m_isFilled, .int 0, .ref m_uses, .ref m_heapsOne, .ref m_heapsOther]))]) (hS : va_S (fun q : Nat => s.heap.size ≤ q) s.heap H locs) (ls : Array Slot) (hl : lv_has ls 4 [(3, .int 0), (2, .ref m0), (1, .ref h0), (0, .ref b)]) : W p l e room_1 s m #[Value.ref b] below meth c H locs 600000 7302250 (lw_Z below #[Value.ref b] s) (F0 m 935 ls []) := by
  obtain ⟨hx, hb, hr, hml, hown, hts, hX, hbl, hlocks, hgv⟩ := id C0
  have hts := fun w h => hts w (wsL_law_in w h)
  have hown : s.vm.findClass RL = some m.cls := hown
  have hA : ∀ q : Nat, s.heap.size ≤ q → (fun q : Nat => s.heap.size ≤ q) q := fun _ h => h
  have hbA : ¬ (fun q : Nat => s.heap.size ≤ q) b := Nat.not_le.mpr hbl
  obtain ⟨z1, ez1⟩ : ∃ z : Int32, z = xs (1 : Int32).toNatClampNeg := ⟨_, rfl⟩
  refine lv_aload_n hx hb dL_law_935 rfl (lv_at hl 2 rfl) ?_
  refine lv_aload_n hx hb dL_law_936 rfl (lv_at hl 3 rfl) ?_
  refine lv_iload_n hx hb dL_law_937 rfl (lv_at hl 0 rfl) ?_
  refine lv_iconst (v := 1) hx hb dL_law_938 (by decide) ?_
  refine lv_iadd hx hb dL_law_939 ?_
  refine lv_topi (fun x_1 ex_1 => ?_)
  obtain rfl : x_1 = 1 := ex_1.trans (by decide)
  refine va_sld hx hb hX hbl hbA hS (vp_in_iff.mpr ⟨by decide, by rw [hL]; decide⟩) dL_law_940 ?_
  refine lv_topi (fun x_2 ex_2 => ?_)
  obtain rfl : z1 = x_2 := ez1.trans ex_2.symm
  have hPc := hP.sub (ws' := [(h0, .inr (8, [.ref hRows, .ref hMer, .ref hEra, .ref hTape, .ref hRea, .ref hTra, .ref hWor, .ref hPla, .ref hMod, .ref hHe1, .ref hHe2, .int 0, .int 0, .int 0, .int 0, .int (-1), .int 0]))]) [0] rfl
  have hDc := hD.sub (ws' := [(h0, .inr (8, [.ref hRows, .ref hMer, .ref hEra, .ref hTape, .ref hRea, .ref hTra, .ref hWor, .ref hPla, .ref hMod, .ref hHe1, .ref hHe2, .int 0, .int 0, .int 0, .int 0, .int (-1), .int 0]))]) [0] (by decide) rfl
  have hKc := hK.sub (tys' := []) [] rfl
  have hFc := va_free (wc := [(h0, .inr (8, [.ref hRows, .ref hMer, .ref hEra, .ref hTape, .ref hRea, .ref hTra, .ref hWor, .ref hPla, .ref hMod, .ref hHe1, .ref hHe2, .int 0, .int 0, .int 0, .int 0, .int (-1), .int 0]))]) hD hS hA [0] rfl
  refine va_calli (va_runV (As := [.int z1]) (rest := []) ⟨hx, hb, hml, hown, hts⟩ (c_X8_needed l dC dI H.size h0 hRows hMer hEra hTape hRea hTra hWor hPla hMod hHe1 hHe2 z1 ) (cwV 1 hts gL_law_X8_needed rfl rfl rfl (by decide +kernel) ⟨Nat.le_of_ble_eq_true rfl, Nat.le_of_ble_eq_true rfl⟩) ⟨fun a U g mk q => by obtain ⟨q0, q1, qP, qK, qD, qN⟩ := q; exact ⟨q0, q1, qP, va_K.moved (u := U) (U := U.calling g mk a) (Vm.Alike.refl U.vm) qK, qD, qN.same rfl⟩, va_recv hKc hPc (ci := 8) (q0 := 0) rfl rfl, fun U hU hW => ⟨rfl, by rw [hU], by rw [hU]; exact hPc, va_K.moved hW.alike hKc, hDc.weaken (fun _ _ _ _ => trivial), hN.warm hW⟩⟩ rfl rfl hl.1 rfl (lv_room (Nat.le_of_ble_eq_true rfl)) dL_law_941 ⟨Nat.le_of_ble_eq_true rfl, Nat.le_of_ble_eq_true rfl⟩) hS (fun q _ h => hFc q h) hFc (fun r_3 u_4 t H1 locs ht hvm hw_5 hB hz1 hk1 hS => ?_)
  try dsimp only at hw_5
  have hP1 : va_P (dC, dI) vwCl [] H1 := fun k q h => by simp at h
  have hD1 : va_D (va_A [(h0, .inr (8, [.ref hRows, .ref hMer, .ref hEra, .ref hTape, .ref hRea, .ref hTra, .ref hWor, .ref hPla, .ref hMod, .ref hHe1, .ref hHe2, .int 0, .int 0, .int 0, .int 0, .int (-1), .int 0]))] H.size) [] := ⟨fun i j p q h => by simp at h, fun k q h => by simp at h⟩
  have hK1 : va_K (dC, dI) vwCl [] s := hK.sub [] rfl
  obtain ⟨hP, hD⟩ := va_join (wr := [(m0, .inr (9, [.int 0, .int 0, .int 0, .ref m_rowPerson, .ref m_rowStream, .ref m_rowMoment, .ref m_rowKnown, .ref m_rowValue, .ref m_isGone, .ref m_mergeTo, .ref m_mergeKnown, .int 0, .ref m_isErased, .ref m_tape, .int 0, .int 0, .int 0, .int 0, .int (-1), .int 0, .ref m_five, .int 0, .int 0, .int 0, .int 0, .ref m_size0, .ref m_step, .ref m_stepA, .ref m_stepB, .ref m_stepC, .ref m_values, .ref m_heap, .ref m_isOne, .ref m_lawFrom, .ref m_lawTo, .ref m_hasLaw, .ref m_limits, .ref m_held, .ref m_hasKept, .ref m_kept, .ref m_keptAt, .int 0, .ref m_placeTrait, .ref m_placePerson, .ref m_placeMoment, .ref m_placeValue, .ref m_isFilled, .int 0, .ref m_uses, .ref m_heapsOne, .ref m_heapsOther]))]) (w1 := []) hP hD [0] [1] rfl rfl (by decide) (by decide) hk1 hFc hP1 hD1
  have hK := (hK.sub (tys' := []) [] rfl).app hK1
  generalize H1 = H at hP hS ⊢
  have hP : va_P (dC, dI) vwCl [(m0, .inr (9, [.int 0, .int 0, .int 0, .ref m_rowPerson, .ref m_rowStream, .ref m_rowMoment, .ref m_rowKnown, .ref m_rowValue, .ref m_isGone, .ref m_mergeTo, .ref m_mergeKnown, .int 0, .ref m_isErased, .ref m_tape, .int 0, .int 0, .int 0, .int 0, .int (-1), .int 0, .ref m_five, .int 0, .int 0, .int 0, .int 0, .ref m_size0, .ref m_step, .ref m_stepA, .ref m_stepB, .ref m_stepC, .ref m_values, .ref m_heap, .ref m_isOne, .ref m_lawFrom, .ref m_lawTo, .ref m_hasLaw, .ref m_limits, .ref m_held, .ref m_hasKept, .ref m_kept, .ref m_keptAt, .int 0, .ref m_placeTrait, .ref m_placePerson, .ref m_placeMoment, .ref m_placeValue, .ref m_isFilled, .int 0, .ref m_uses, .ref m_heapsOne, .ref m_heapsOther]))] H := hP
  have hD : va_D (fun q : Nat => s.heap.size ≤ q) [(m0, .inr (9, [.int 0, .int 0, .int 0, .ref m_rowPerson, .ref m_rowStream, .ref m_rowMoment, .ref m_rowKnown, .ref m_rowValue, .ref m_isGone, .ref m_mergeTo, .ref m_mergeKnown, .int 0, .ref m_isErased, .ref m_tape, .int 0, .int 0, .int 0, .int 0, .int (-1), .int 0, .ref m_five, .int 0, .int 0, .int 0, .int 0, .ref m_size0, .ref m_step, .ref m_stepA, .ref m_stepB, .ref m_stepC, .ref m_values, .ref m_heap, .ref m_isOne, .ref m_lawFrom, .ref m_lawTo, .ref m_hasLaw, .ref m_limits, .ref m_held, .ref m_hasKept, .ref m_kept, .ref m_keptAt, .int 0, .ref m_placeTrait, .ref m_placePerson, .ref m_placeMoment, .ref m_placeValue, .ref m_isFilled, .int 0, .ref m_uses, .ref m_heapsOne, .ref m_heapsOther]))] := hD
  have hK : va_K (dC, dI) vwCl [] s := hK
  obtain rfl : 0 = r_3 := hw_5.symm
  refine lv_aload_n hx hb dL_law_944 rfl (lv_at hl 1 rfl) ?_
  refine lv_aload_n hx hb dL_law_945 rfl (lv_at hl 3 rfl) ?_
  refine lv_iload_n hx hb dL_law_946 rfl (lv_at hl 0 rfl) ?_
  refine lv_iconst (v := 1) hx hb dL_law_947 (by decide) ?_
  refine lv_iadd hx hb dL_law_948 ?_
  refine lv_topi (fun x_6 ex_6 => ?_)
  obtain rfl : x_6 = 1 := ex_6.trans (by decide)
  refine va_sld hx hb hX hbl hbA hS (vp_in_iff.mpr ⟨by decide, by rw [hL]; decide⟩) dL_law_949 ?_
  refine lv_topi (fun x_7 ex_7 => ?_)
  obtain rfl : z1 = x_7 := ez1.trans ex_7.symm
  have hPc := hP.sub (ws' := [(m0, .inr (9, [.int 0, .int 0, .int 0, .ref m_rowPerson, .ref m_rowStream, .ref m_rowMoment, .ref m_rowKnown, .ref m_rowValue, .ref m_isGone, .ref m_mergeTo, .ref m_mergeKnown, .int 0, .ref m_isErased, .ref m_tape, .int 0, .int 0, .int 0, .int 0, .int (-1), .int 0, .ref m_five, .int 0, .int 0, .int 0, .int 0, .ref m_size0, .ref m_step, .ref m_stepA, .ref m_stepB, .ref m_stepC, .ref m_values, .ref m_heap, .ref m_isOne, .ref m_lawFrom, .ref m_lawTo, .ref m_hasLaw, .ref m_limits, .ref m_held, .ref m_hasKept, .ref m_kept, .ref m_keptAt, .int 0, .ref m_placeTrait, .ref m_placePerson, .ref m_placeMoment, .ref m_placeValue, .ref m_isFilled, .int 0, .ref m_uses, .ref m_heapsOne, .ref m_heapsOther]))]) [0] rfl
  have hDc := hD.sub (ws' := [(m0, .inr (9, [.int 0, .int 0, .int 0, .ref m_rowPerson, .ref m_rowStream, .ref m_rowMoment, .ref m_rowKnown, .ref m_rowValue, .ref m_isGone, .ref m_mergeTo, .ref m_mergeKnown, .int 0, .ref m_isErased, .ref m_tape, .int 0, .int 0, .int 0, .int 0, .int (-1), .int 0, .ref m_five, .int 0, .int 0, .int 0, .int 0, .ref m_size0, .ref m_step, .ref m_stepA, .ref m_stepB, .ref m_stepC, .ref m_values, .ref m_heap, .ref m_isOne, .ref m_lawFrom, .ref m_lawTo, .ref m_hasLaw, .ref m_limits, .ref m_held, .ref m_hasKept, .ref m_kept, .ref m_keptAt, .int 0, .ref m_placeTrait, .ref m_placePerson, .ref m_placeMoment, .ref m_placeValue, .ref m_isFilled, .int 0, .ref m_uses, .ref m_heapsOne, .ref m_heapsOther]))]) [0] (by decide) rfl
  have hKc := hK.sub (tys' := []) [] rfl
  have hFc := va_free (wc := [(m0, .inr (9, [.int 0, .int 0, .int 0, .ref m_rowPerson, .ref m_rowStream, .ref m_rowMoment, .ref m_rowKnown, .ref m_rowValue, .ref m_isGone, .ref m_mergeTo, .ref m_mergeKnown, .int 0, .ref m_isErased, .ref m_tape, .int 0, .int 0, .int 0, .int 0, .int (-1), .int 0, .ref m_five, .int 0, .int 0, .int 0, .int 0, .ref m_size0, .ref m_step, .ref m_stepA, .ref m_stepB, .ref m_stepC, .ref m_values, .ref m_heap, .ref m_isOne, .ref m_lawFrom, .ref m_lawTo, .ref m_hasLaw, .ref m_limits, .ref m_held, .ref m_hasKept, .ref m_kept, .ref m_keptAt, .int 0, .ref m_placeTrait, .ref m_placePerson, .ref m_placeMoment, .ref m_placeValue, .ref m_isFilled, .int 0, .ref m_uses, .ref m_heapsOne, .ref m_heapsOther]))]) hD hS hA [0] rfl
  refine va_calli (va_runV (As := [.int z1]) (rest := [.int 0]) ⟨hx, hb, hml, hown, hts⟩ (c_X9_needed l dC dI H.size m0 m_rowPerson m_rowStream m_rowMoment m_rowKnown m_rowValue m_isGone m_mergeTo m_mergeKnown m_isErased m_tape m_five m_size0 m_step m_stepA m_stepB m_stepC m_values m_heap m_isOne m_lawFrom m_lawTo m_hasLaw m_limits m_held m_hasKept m_kept m_keptAt m_placeTrait m_placePerson m_placeMoment m_placeValue m_isFilled m_uses m_heapsOne m_heapsOther z1 ) (cwV 1 hts gL_law_X9_needed rfl rfl rfl (by decide +kernel) ⟨Nat.le_of_ble_eq_true rfl, Nat.le_of_ble_eq_true rfl⟩) ⟨fun a U g mk q => by obtain ⟨q0, q1, qP, qK, qD, qN⟩ := q; exact ⟨q0, q1, qP, va_K.moved (u := U) (U := U.calling g mk a) (Vm.Alike.refl U.vm) qK, qD, qN.same rfl⟩, va_recv hKc hPc (ci := 9) (q0 := 0) rfl rfl, fun U hU hW => ⟨rfl, by rw [hU], by rw [hU]; exact hPc, va_K.moved hW.alike hKc, hDc.weaken (fun _ _ _ _ => trivial), hN.warm hW⟩⟩ rfl rfl hl.1 rfl (lv_room (Nat.le_of_ble_eq_true rfl)) dL_law_950 ⟨Nat.le_of_ble_eq_true rfl, Nat.le_of_ble_eq_true rfl⟩) hS (fun q _ h => hFc q h) hFc (fun r_8 u_9 t H1 locs ht hvm hw_10 hB hz1 hk1 hS => ?_)
  try dsimp only at hw_10
  have hP1 : va_P (dC, dI) vwCl [] H1 := fun k q h => by simp at h
  have hD1 : va_D (va_A [(m0, .inr (9, [.int 0, .int 0, .int 0, .ref m_rowPerson, .ref m_rowStream, .ref m_rowMoment, .ref m_rowKnown, .ref m_rowValue, .ref m_isGone, .ref m_mergeTo, .ref m_mergeKnown, .int 0, .ref m_isErased, .ref m_tape, .int 0, .int 0, .int 0, .int 0, .int (-1), .int 0, .ref m_five, .int 0, .int 0, .int 0, .int 0, .ref m_size0, .ref m_step, .ref m_stepA, .ref m_stepB, .ref m_stepC, .ref m_values, .ref m_heap, .ref m_isOne, .ref m_lawFrom, .ref m_lawTo, .ref m_hasLaw, .ref m_limits, .ref m_held, .ref m_hasKept, .ref m_kept, .ref m_keptAt, .int 0, .ref m_placeTrait, .ref m_placePerson, .ref m_placeMoment, .ref m_placeValue, .ref m_isFilled, .int 0, .ref m_uses, .ref m_heapsOne, .ref m_heapsOther]))] H.size) [] := ⟨fun i j p q h => by simp at h, fun k q h => by simp at h⟩
  have hK1 : va_K (dC, dI) vwCl [] s := hK.sub [] rfl
  obtain ⟨hP, hD⟩ := va_join (wr := []) (w1 := []) hP hD [0] [] rfl rfl (by decide) (by decide) hk1 hFc hP1 hD1
  have hK := (hK.sub (tys' := []) [] rfl).app hK1
  generalize H1 = H at hP hS ⊢
  have hP : va_P (dC, dI) vwCl [] H := hP
  have hD : va_D (fun q : Nat => s.heap.size ≤ q) [] := hD
  have hK : va_K (dC, dI) vwCl [] s := hK
  obtain rfl : 0 = r_8 := hw_10.symm
  refine lv_icmp_eq (tgt := 1234) hx hb dL_law_953 (by decide) (fun c_11 => ?_) (fun c_11 => ?_)
  · exact law_tail hL C0 hS (lv_sub hl [0, 3] rfl)
  · exact absurd rfl c_11

set_option maxHeartbeats 4000000 in
set_option maxRecDepth 100000 in
theorem law_hung {p : Program} {l : Launch} {e : Env} {s : State} {m : MethodId} {below : List Frame} {meth : Method} {c : Code} {dC : Nat → ClassId} {dI : Nat → Nat → Nat} {b L : Nat} {xs : Nat → Int32} (hL : L = 11) (C0 : lw_At p s m meth c b L xs) (hN : nw_ok s) (h0 : Nat) (hRows : Nat) (hMer : Nat) (hEra : Nat) (hTape : Nat) (hRea : Nat) (hTra : Nat) (hWor : Nat) (hPla : Nat) (hMod : Nat) (hHe1 : Nat) (hHe2 : Nat) (m0 : Nat) (m_rowPerson : Nat) (m_rowStream : Nat) (m_rowMoment : Nat) (m_rowKnown : Nat) (m_rowValue : Nat) (m_isGone : Nat) (m_mergeTo : Nat) (m_mergeKnown : Nat) (m_isErased : Nat) (m_tape : Nat) (m_five : Nat) (m_size0 : Nat) (m_step : Nat) (m_stepA : Nat) (m_stepB : Nat) (m_stepC : Nat) (m_values : Nat) (m_heap : Nat) (m_isOne : Nat) (m_lawFrom : Nat) (m_lawTo : Nat) (m_hasLaw : Nat) (m_limits : Nat) (m_held : Nat) (m_hasKept : Nat) (m_kept : Nat) (m_keptAt : Nat) (m_placeTrait : Nat) (m_placePerson : Nat) (m_placeMoment : Nat) (m_placeValue : Nat) (m_isFilled : Nat) (m_uses : Nat) (m_heapsOne : Nat) (m_heapsOther : Nat)  (H : Heap) (locs : List Loc) (hK : va_K (dC, dI) vwCl [] s) (hP : va_P (dC, dI) vwCl [(h0, .inr (8, [.ref hRows, .ref hMer, .ref hEra, .ref hTape, .ref hRea, .ref hTra, .ref hWor, .ref hPla, .ref hMod, .ref hHe1, .ref hHe2, .int 0, .int 0, .int 0, .int 0, .int (-1), .int 0])), (m0, .inr (9, [.int 0, .int 0, .int 0, .ref m_rowPerson, .ref m_rowStream, .ref m_rowMoment, .ref m_rowKnown, .ref m_rowValue, .ref m_isGone, .ref m_mergeTo, .ref m_mergeKnown, .int 0, .ref m_isErased, .ref m_tape, .int 0, .int 0, .int 0, .int 0, .int (-1), .int 0, .ref m_five, .int 0, .int 0, .int 0, .int 0, .ref m_size0, .ref m_step, .ref m_stepA, .ref m_stepB, .ref m_stepC, .ref m_values, .ref m_heap, .ref m_isOne, .ref m_lawFrom, .ref m_lawTo, .ref m_hasLaw, .ref m_limits, .ref m_held, .ref m_hasKept, .ref m_kept, .ref m_keptAt, .int 0, .ref m_placeTrait, .ref m_placePerson, .ref m_placeMoment, .ref m_placeValue, .ref m_isFilled, .int 0, .ref m_uses, .ref m_heapsOne, .ref m_heapsOther]))] H) (hD : va_D (fun q : Nat => s.heap.size ≤ q) [(h0, .inr (8, [.ref hRows, .ref hMer, .ref hEra, .ref hTape, .ref hRea, .ref hTra, .ref hWor, .ref hPla, .ref hMod, .ref hHe1, .ref hHe2, .int 0, .int 0, .int 0, .int 0, .int (-1), .int 0])), (m0, .inr (9, [.int 0, .int 0, .int 0, .ref m_rowPerson, .ref m_rowStream, .ref m_rowMoment, .ref m_rowKnown, .ref m_rowValue, .ref m_isGone, .ref m_mergeTo, .ref m_mergeKnown, .int 0, .ref m_isErased, .ref m_tape, .int 0, .int 0, .int 0, .int 0, .int (-1), .int 0, .ref m_five, .int 0, .int 0, .int 0, .int 0, .ref m_size0, .ref m_step, .ref m_stepA, .ref m_stepB, .ref m_stepC, .ref m_values, .ref m_heap, .ref m_isOne, .ref m_lawFrom, .ref m_lawTo, .ref m_hasLaw, .ref m_limits, .ref m_held, .ref m_hasKept, .ref m_kept, .ref m_keptAt, .int 0, .ref m_placeTrait, .ref m_placePerson, .ref m_placeMoment, .ref m_placeValue, .ref m_isFilled, .int 0, .ref m_uses, .ref m_heapsOne, .ref m_heapsOther]))]) (hS : va_S (fun q : Nat => s.heap.size ≤ q) s.heap H locs) (ls : Array Slot) (hl : lv_has ls 4 [(3, .int 0), (2, .ref m0), (1, .ref h0), (0, .ref b)]) : W p l e room_1 s m #[Value.ref b] below meth c H locs 600000 7302250 (lw_Z below #[Value.ref b] s) (F0 m 958 ls []) := by
  obtain ⟨hx, hb, hr, hml, hown, hts, hX, hbl, hlocks, hgv⟩ := id C0
  have hts := fun w h => hts w (wsL_law_in w h)
  have hown : s.vm.findClass RL = some m.cls := hown
  have hA : ∀ q : Nat, s.heap.size ≤ q → (fun q : Nat => s.heap.size ≤ q) q := fun _ h => h
  have hbA : ¬ (fun q : Nat => s.heap.size ≤ q) b := Nat.not_le.mpr hbl
  obtain ⟨z1, ez1⟩ : ∃ z : Int32, z = xs (1 : Int32).toNatClampNeg := ⟨_, rfl⟩
  refine lv_aload_n hx hb dL_law_958 rfl (lv_at hl 2 rfl) ?_
  refine lv_aload_n hx hb dL_law_959 rfl (lv_at hl 3 rfl) ?_
  refine lv_iload_n hx hb dL_law_960 rfl (lv_at hl 0 rfl) ?_
  refine lv_iconst (v := 1) hx hb dL_law_961 (by decide) ?_
  refine lv_iadd hx hb dL_law_962 ?_
  refine lv_topi (fun x_1 ex_1 => ?_)
  obtain rfl : x_1 = 1 := ex_1.trans (by decide)
  refine va_sld hx hb hX hbl hbA hS (vp_in_iff.mpr ⟨by decide, by rw [hL]; decide⟩) dL_law_963 ?_
  refine lv_topi (fun x_2 ex_2 => ?_)
  obtain rfl : z1 = x_2 := ez1.trans ex_2.symm
  have hPc := hP.sub (ws' := [(h0, .inr (8, [.ref hRows, .ref hMer, .ref hEra, .ref hTape, .ref hRea, .ref hTra, .ref hWor, .ref hPla, .ref hMod, .ref hHe1, .ref hHe2, .int 0, .int 0, .int 0, .int 0, .int (-1), .int 0]))]) [0] rfl
  have hDc := hD.sub (ws' := [(h0, .inr (8, [.ref hRows, .ref hMer, .ref hEra, .ref hTape, .ref hRea, .ref hTra, .ref hWor, .ref hPla, .ref hMod, .ref hHe1, .ref hHe2, .int 0, .int 0, .int 0, .int 0, .int (-1), .int 0]))]) [0] (by decide) rfl
  have hKc := hK.sub (tys' := []) [] rfl
  have hFc := va_free (wc := [(h0, .inr (8, [.ref hRows, .ref hMer, .ref hEra, .ref hTape, .ref hRea, .ref hTra, .ref hWor, .ref hPla, .ref hMod, .ref hHe1, .ref hHe2, .int 0, .int 0, .int 0, .int 0, .int (-1), .int 0]))]) hD hS hA [0] rfl
  refine va_calli (va_runV (As := [.int z1]) (rest := []) ⟨hx, hb, hml, hown, hts⟩ (c_X8_hung l dC dI H.size h0 hRows hMer hEra hTape hRea hTra hWor hPla hMod hHe1 hHe2 z1 ) (cwV 1 hts gL_law_X8_hung rfl rfl rfl (by decide +kernel) ⟨Nat.le_of_ble_eq_true rfl, Nat.le_of_ble_eq_true rfl⟩) ⟨fun a U g mk q => by obtain ⟨q0, q1, qP, qK, qD, qN⟩ := q; exact ⟨q0, q1, qP, va_K.moved (u := U) (U := U.calling g mk a) (Vm.Alike.refl U.vm) qK, qD, qN.same rfl⟩, va_recv hKc hPc (ci := 8) (q0 := 0) rfl rfl, fun U hU hW => ⟨rfl, by rw [hU], by rw [hU]; exact hPc, va_K.moved hW.alike hKc, hDc.weaken (fun _ _ _ _ => trivial), hN.warm hW⟩⟩ rfl rfl hl.1 rfl (lv_room (Nat.le_of_ble_eq_true rfl)) dL_law_964 ⟨Nat.le_of_ble_eq_true rfl, Nat.le_of_ble_eq_true rfl⟩) hS (fun q _ h => hFc q h) hFc (fun r_3 u_4 t H1 locs ht hvm hw_5 hB hz1 hk1 hS => ?_)
  try dsimp only at hw_5
  have hP1 : va_P (dC, dI) vwCl [] H1 := fun k q h => by simp at h
  have hD1 : va_D (va_A [(h0, .inr (8, [.ref hRows, .ref hMer, .ref hEra, .ref hTape, .ref hRea, .ref hTra, .ref hWor, .ref hPla, .ref hMod, .ref hHe1, .ref hHe2, .int 0, .int 0, .int 0, .int 0, .int (-1), .int 0]))] H.size) [] := ⟨fun i j p q h => by simp at h, fun k q h => by simp at h⟩
  have hK1 : va_K (dC, dI) vwCl [] s := hK.sub [] rfl
  obtain ⟨hP, hD⟩ := va_join (wr := [(m0, .inr (9, [.int 0, .int 0, .int 0, .ref m_rowPerson, .ref m_rowStream, .ref m_rowMoment, .ref m_rowKnown, .ref m_rowValue, .ref m_isGone, .ref m_mergeTo, .ref m_mergeKnown, .int 0, .ref m_isErased, .ref m_tape, .int 0, .int 0, .int 0, .int 0, .int (-1), .int 0, .ref m_five, .int 0, .int 0, .int 0, .int 0, .ref m_size0, .ref m_step, .ref m_stepA, .ref m_stepB, .ref m_stepC, .ref m_values, .ref m_heap, .ref m_isOne, .ref m_lawFrom, .ref m_lawTo, .ref m_hasLaw, .ref m_limits, .ref m_held, .ref m_hasKept, .ref m_kept, .ref m_keptAt, .int 0, .ref m_placeTrait, .ref m_placePerson, .ref m_placeMoment, .ref m_placeValue, .ref m_isFilled, .int 0, .ref m_uses, .ref m_heapsOne, .ref m_heapsOther]))]) (w1 := []) hP hD [0] [1] rfl rfl (by decide) (by decide) hk1 hFc hP1 hD1
  have hK := (hK.sub (tys' := []) [] rfl).app hK1
  generalize H1 = H at hP hS ⊢
  have hP : va_P (dC, dI) vwCl [(m0, .inr (9, [.int 0, .int 0, .int 0, .ref m_rowPerson, .ref m_rowStream, .ref m_rowMoment, .ref m_rowKnown, .ref m_rowValue, .ref m_isGone, .ref m_mergeTo, .ref m_mergeKnown, .int 0, .ref m_isErased, .ref m_tape, .int 0, .int 0, .int 0, .int 0, .int (-1), .int 0, .ref m_five, .int 0, .int 0, .int 0, .int 0, .ref m_size0, .ref m_step, .ref m_stepA, .ref m_stepB, .ref m_stepC, .ref m_values, .ref m_heap, .ref m_isOne, .ref m_lawFrom, .ref m_lawTo, .ref m_hasLaw, .ref m_limits, .ref m_held, .ref m_hasKept, .ref m_kept, .ref m_keptAt, .int 0, .ref m_placeTrait, .ref m_placePerson, .ref m_placeMoment, .ref m_placeValue, .ref m_isFilled, .int 0, .ref m_uses, .ref m_heapsOne, .ref m_heapsOther]))] H := hP
  have hD : va_D (fun q : Nat => s.heap.size ≤ q) [(m0, .inr (9, [.int 0, .int 0, .int 0, .ref m_rowPerson, .ref m_rowStream, .ref m_rowMoment, .ref m_rowKnown, .ref m_rowValue, .ref m_isGone, .ref m_mergeTo, .ref m_mergeKnown, .int 0, .ref m_isErased, .ref m_tape, .int 0, .int 0, .int 0, .int 0, .int (-1), .int 0, .ref m_five, .int 0, .int 0, .int 0, .int 0, .ref m_size0, .ref m_step, .ref m_stepA, .ref m_stepB, .ref m_stepC, .ref m_values, .ref m_heap, .ref m_isOne, .ref m_lawFrom, .ref m_lawTo, .ref m_hasLaw, .ref m_limits, .ref m_held, .ref m_hasKept, .ref m_kept, .ref m_keptAt, .int 0, .ref m_placeTrait, .ref m_placePerson, .ref m_placeMoment, .ref m_placeValue, .ref m_isFilled, .int 0, .ref m_uses, .ref m_heapsOne, .ref m_heapsOther]))] := hD
  have hK : va_K (dC, dI) vwCl [] s := hK
  obtain rfl : (-1) = r_3 := hw_5.symm
  refine lv_aload_n hx hb dL_law_967 rfl (lv_at hl 1 rfl) ?_
  refine lv_aload_n hx hb dL_law_968 rfl (lv_at hl 3 rfl) ?_
  refine lv_iload_n hx hb dL_law_969 rfl (lv_at hl 0 rfl) ?_
  refine lv_iconst (v := 1) hx hb dL_law_970 (by decide) ?_
  refine lv_iadd hx hb dL_law_971 ?_
  refine lv_topi (fun x_6 ex_6 => ?_)
  obtain rfl : x_6 = 1 := ex_6.trans (by decide)
  refine va_sld hx hb hX hbl hbA hS (vp_in_iff.mpr ⟨by decide, by rw [hL]; decide⟩) dL_law_972 ?_
  refine lv_topi (fun x_7 ex_7 => ?_)
  obtain rfl : z1 = x_7 := ez1.trans ex_7.symm
  have hPc := hP.sub (ws' := [(m0, .inr (9, [.int 0, .int 0, .int 0, .ref m_rowPerson, .ref m_rowStream, .ref m_rowMoment, .ref m_rowKnown, .ref m_rowValue, .ref m_isGone, .ref m_mergeTo, .ref m_mergeKnown, .int 0, .ref m_isErased, .ref m_tape, .int 0, .int 0, .int 0, .int 0, .int (-1), .int 0, .ref m_five, .int 0, .int 0, .int 0, .int 0, .ref m_size0, .ref m_step, .ref m_stepA, .ref m_stepB, .ref m_stepC, .ref m_values, .ref m_heap, .ref m_isOne, .ref m_lawFrom, .ref m_lawTo, .ref m_hasLaw, .ref m_limits, .ref m_held, .ref m_hasKept, .ref m_kept, .ref m_keptAt, .int 0, .ref m_placeTrait, .ref m_placePerson, .ref m_placeMoment, .ref m_placeValue, .ref m_isFilled, .int 0, .ref m_uses, .ref m_heapsOne, .ref m_heapsOther]))]) [0] rfl
  have hDc := hD.sub (ws' := [(m0, .inr (9, [.int 0, .int 0, .int 0, .ref m_rowPerson, .ref m_rowStream, .ref m_rowMoment, .ref m_rowKnown, .ref m_rowValue, .ref m_isGone, .ref m_mergeTo, .ref m_mergeKnown, .int 0, .ref m_isErased, .ref m_tape, .int 0, .int 0, .int 0, .int 0, .int (-1), .int 0, .ref m_five, .int 0, .int 0, .int 0, .int 0, .ref m_size0, .ref m_step, .ref m_stepA, .ref m_stepB, .ref m_stepC, .ref m_values, .ref m_heap, .ref m_isOne, .ref m_lawFrom, .ref m_lawTo, .ref m_hasLaw, .ref m_limits, .ref m_held, .ref m_hasKept, .ref m_kept, .ref m_keptAt, .int 0, .ref m_placeTrait, .ref m_placePerson, .ref m_placeMoment, .ref m_placeValue, .ref m_isFilled, .int 0, .ref m_uses, .ref m_heapsOne, .ref m_heapsOther]))]) [0] (by decide) rfl
  have hKc := hK.sub (tys' := []) [] rfl
  have hFc := va_free (wc := [(m0, .inr (9, [.int 0, .int 0, .int 0, .ref m_rowPerson, .ref m_rowStream, .ref m_rowMoment, .ref m_rowKnown, .ref m_rowValue, .ref m_isGone, .ref m_mergeTo, .ref m_mergeKnown, .int 0, .ref m_isErased, .ref m_tape, .int 0, .int 0, .int 0, .int 0, .int (-1), .int 0, .ref m_five, .int 0, .int 0, .int 0, .int 0, .ref m_size0, .ref m_step, .ref m_stepA, .ref m_stepB, .ref m_stepC, .ref m_values, .ref m_heap, .ref m_isOne, .ref m_lawFrom, .ref m_lawTo, .ref m_hasLaw, .ref m_limits, .ref m_held, .ref m_hasKept, .ref m_kept, .ref m_keptAt, .int 0, .ref m_placeTrait, .ref m_placePerson, .ref m_placeMoment, .ref m_placeValue, .ref m_isFilled, .int 0, .ref m_uses, .ref m_heapsOne, .ref m_heapsOther]))]) hD hS hA [0] rfl
  refine va_calli (va_runV (As := [.int z1]) (rest := [.int (-1)]) ⟨hx, hb, hml, hown, hts⟩ (c_X9_hung l dC dI H.size m0 m_rowPerson m_rowStream m_rowMoment m_rowKnown m_rowValue m_isGone m_mergeTo m_mergeKnown m_isErased m_tape m_five m_size0 m_step m_stepA m_stepB m_stepC m_values m_heap m_isOne m_lawFrom m_lawTo m_hasLaw m_limits m_held m_hasKept m_kept m_keptAt m_placeTrait m_placePerson m_placeMoment m_placeValue m_isFilled m_uses m_heapsOne m_heapsOther z1 ) (cwV 1 hts gL_law_X9_hung rfl rfl rfl (by decide +kernel) ⟨Nat.le_of_ble_eq_true rfl, Nat.le_of_ble_eq_true rfl⟩) ⟨fun a U g mk q => by obtain ⟨q0, q1, qP, qK, qD, qN⟩ := q; exact ⟨q0, q1, qP, va_K.moved (u := U) (U := U.calling g mk a) (Vm.Alike.refl U.vm) qK, qD, qN.same rfl⟩, va_recv hKc hPc (ci := 9) (q0 := 0) rfl rfl, fun U hU hW => ⟨rfl, by rw [hU], by rw [hU]; exact hPc, va_K.moved hW.alike hKc, hDc.weaken (fun _ _ _ _ => trivial), hN.warm hW⟩⟩ rfl rfl hl.1 rfl (lv_room (Nat.le_of_ble_eq_true rfl)) dL_law_973 ⟨Nat.le_of_ble_eq_true rfl, Nat.le_of_ble_eq_true rfl⟩) hS (fun q _ h => hFc q h) hFc (fun r_8 u_9 t H1 locs ht hvm hw_10 hB hz1 hk1 hS => ?_)
  try dsimp only at hw_10
  have hP1 : va_P (dC, dI) vwCl [] H1 := fun k q h => by simp at h
  have hD1 : va_D (va_A [(m0, .inr (9, [.int 0, .int 0, .int 0, .ref m_rowPerson, .ref m_rowStream, .ref m_rowMoment, .ref m_rowKnown, .ref m_rowValue, .ref m_isGone, .ref m_mergeTo, .ref m_mergeKnown, .int 0, .ref m_isErased, .ref m_tape, .int 0, .int 0, .int 0, .int 0, .int (-1), .int 0, .ref m_five, .int 0, .int 0, .int 0, .int 0, .ref m_size0, .ref m_step, .ref m_stepA, .ref m_stepB, .ref m_stepC, .ref m_values, .ref m_heap, .ref m_isOne, .ref m_lawFrom, .ref m_lawTo, .ref m_hasLaw, .ref m_limits, .ref m_held, .ref m_hasKept, .ref m_kept, .ref m_keptAt, .int 0, .ref m_placeTrait, .ref m_placePerson, .ref m_placeMoment, .ref m_placeValue, .ref m_isFilled, .int 0, .ref m_uses, .ref m_heapsOne, .ref m_heapsOther]))] H.size) [] := ⟨fun i j p q h => by simp at h, fun k q h => by simp at h⟩
  have hK1 : va_K (dC, dI) vwCl [] s := hK.sub [] rfl
  obtain ⟨hP, hD⟩ := va_join (wr := []) (w1 := []) hP hD [0] [] rfl rfl (by decide) (by decide) hk1 hFc hP1 hD1
  have hK := (hK.sub (tys' := []) [] rfl).app hK1
  generalize H1 = H at hP hS ⊢
  have hP : va_P (dC, dI) vwCl [] H := hP
  have hD : va_D (fun q : Nat => s.heap.size ≤ q) [] := hD
  have hK : va_K (dC, dI) vwCl [] s := hK
  obtain rfl : (-1) = r_8 := hw_10.symm
  refine lv_icmp_eq (tgt := 1234) hx hb dL_law_976 (by decide) (fun c_11 => ?_) (fun c_11 => ?_)
  · exact law_tail hL C0 hS (lv_sub hl [0, 3] rfl)
  · exact absurd rfl c_11

set_option maxHeartbeats 4000000 in
set_option maxRecDepth 100000 in
theorem law_misses {p : Program} {l : Launch} {e : Env} {s : State} {m : MethodId} {below : List Frame} {meth : Method} {c : Code} {dC : Nat → ClassId} {dI : Nat → Nat → Nat} {b L : Nat} {xs : Nat → Int32} (hL : L = 11) (C0 : lw_At p s m meth c b L xs) (hN : nw_ok s) (h0 : Nat) (hRows : Nat) (hMer : Nat) (hEra : Nat) (hTape : Nat) (hRea : Nat) (hTra : Nat) (hWor : Nat) (hPla : Nat) (hMod : Nat) (hHe1 : Nat) (hHe2 : Nat) (m0 : Nat) (m_rowPerson : Nat) (m_rowStream : Nat) (m_rowMoment : Nat) (m_rowKnown : Nat) (m_rowValue : Nat) (m_isGone : Nat) (m_mergeTo : Nat) (m_mergeKnown : Nat) (m_isErased : Nat) (m_tape : Nat) (m_five : Nat) (m_size0 : Nat) (m_step : Nat) (m_stepA : Nat) (m_stepB : Nat) (m_stepC : Nat) (m_values : Nat) (m_heap : Nat) (m_isOne : Nat) (m_lawFrom : Nat) (m_lawTo : Nat) (m_hasLaw : Nat) (m_limits : Nat) (m_held : Nat) (m_hasKept : Nat) (m_kept : Nat) (m_keptAt : Nat) (m_placeTrait : Nat) (m_placePerson : Nat) (m_placeMoment : Nat) (m_placeValue : Nat) (m_isFilled : Nat) (m_uses : Nat) (m_heapsOne : Nat) (m_heapsOther : Nat)  (H : Heap) (locs : List Loc) (hK : va_K (dC, dI) vwCl [] s) (hP : va_P (dC, dI) vwCl [(h0, .inr (8, [.ref hRows, .ref hMer, .ref hEra, .ref hTape, .ref hRea, .ref hTra, .ref hWor, .ref hPla, .ref hMod, .ref hHe1, .ref hHe2, .int 0, .int 0, .int 0, .int 0, .int (-1), .int 0])), (m0, .inr (9, [.int 0, .int 0, .int 0, .ref m_rowPerson, .ref m_rowStream, .ref m_rowMoment, .ref m_rowKnown, .ref m_rowValue, .ref m_isGone, .ref m_mergeTo, .ref m_mergeKnown, .int 0, .ref m_isErased, .ref m_tape, .int 0, .int 0, .int 0, .int 0, .int (-1), .int 0, .ref m_five, .int 0, .int 0, .int 0, .int 0, .ref m_size0, .ref m_step, .ref m_stepA, .ref m_stepB, .ref m_stepC, .ref m_values, .ref m_heap, .ref m_isOne, .ref m_lawFrom, .ref m_lawTo, .ref m_hasLaw, .ref m_limits, .ref m_held, .ref m_hasKept, .ref m_kept, .ref m_keptAt, .int 0, .ref m_placeTrait, .ref m_placePerson, .ref m_placeMoment, .ref m_placeValue, .ref m_isFilled, .int 0, .ref m_uses, .ref m_heapsOne, .ref m_heapsOther]))] H) (hD : va_D (fun q : Nat => s.heap.size ≤ q) [(h0, .inr (8, [.ref hRows, .ref hMer, .ref hEra, .ref hTape, .ref hRea, .ref hTra, .ref hWor, .ref hPla, .ref hMod, .ref hHe1, .ref hHe2, .int 0, .int 0, .int 0, .int 0, .int (-1), .int 0])), (m0, .inr (9, [.int 0, .int 0, .int 0, .ref m_rowPerson, .ref m_rowStream, .ref m_rowMoment, .ref m_rowKnown, .ref m_rowValue, .ref m_isGone, .ref m_mergeTo, .ref m_mergeKnown, .int 0, .ref m_isErased, .ref m_tape, .int 0, .int 0, .int 0, .int 0, .int (-1), .int 0, .ref m_five, .int 0, .int 0, .int 0, .int 0, .ref m_size0, .ref m_step, .ref m_stepA, .ref m_stepB, .ref m_stepC, .ref m_values, .ref m_heap, .ref m_isOne, .ref m_lawFrom, .ref m_lawTo, .ref m_hasLaw, .ref m_limits, .ref m_held, .ref m_hasKept, .ref m_kept, .ref m_keptAt, .int 0, .ref m_placeTrait, .ref m_placePerson, .ref m_placeMoment, .ref m_placeValue, .ref m_isFilled, .int 0, .ref m_uses, .ref m_heapsOne, .ref m_heapsOther]))]) (hS : va_S (fun q : Nat => s.heap.size ≤ q) s.heap H locs) (ls : Array Slot) (hl : lv_has ls 4 [(3, .int 0), (2, .ref m0), (1, .ref h0), (0, .ref b)]) : W p l e room_1 s m #[Value.ref b] below meth c H locs 600000 7302250 (lw_Z below #[Value.ref b] s) (F0 m 981 ls []) := by
  obtain ⟨hx, hb, hr, hml, hown, hts, hX, hbl, hlocks, hgv⟩ := id C0
  have hts := fun w h => hts w (wsL_law_in w h)
  have hown : s.vm.findClass RL = some m.cls := hown
  have hA : ∀ q : Nat, s.heap.size ≤ q → (fun q : Nat => s.heap.size ≤ q) q := fun _ h => h
  have hbA : ¬ (fun q : Nat => s.heap.size ≤ q) b := Nat.not_le.mpr hbl
  obtain ⟨z1, ez1⟩ : ∃ z : Int32, z = xs (1 : Int32).toNatClampNeg := ⟨_, rfl⟩
  obtain ⟨z2, ez2⟩ : ∃ z : Int32, z = xs (2 : Int32).toNatClampNeg := ⟨_, rfl⟩
  refine lv_aload_n hx hb dL_law_981 rfl (lv_at hl 2 rfl) ?_
  refine lv_aload_n hx hb dL_law_982 rfl (lv_at hl 3 rfl) ?_
  refine lv_iload_n hx hb dL_law_983 rfl (lv_at hl 0 rfl) ?_
  refine lv_iconst (v := 1) hx hb dL_law_984 (by decide) ?_
  refine lv_iadd hx hb dL_law_985 ?_
  refine lv_topi (fun x_1 ex_1 => ?_)
  obtain rfl : x_1 = 1 := ex_1.trans (by decide)
  refine va_sld hx hb hX hbl hbA hS (vp_in_iff.mpr ⟨by decide, by rw [hL]; decide⟩) dL_law_986 ?_
  refine lv_topi (fun x_2 ex_2 => ?_)
  obtain rfl : z1 = x_2 := ez1.trans ex_2.symm
  refine lv_aload_n hx hb dL_law_987 rfl (lv_at hl 3 rfl) ?_
  refine lv_iload_n hx hb dL_law_988 rfl (lv_at hl 0 rfl) ?_
  refine lv_iconst (v := 2) hx hb dL_law_989 (by decide) ?_
  refine lv_iadd hx hb dL_law_990 ?_
  refine lv_topi (fun x_3 ex_3 => ?_)
  obtain rfl : x_3 = 2 := ex_3.trans (by decide)
  refine va_sld hx hb hX hbl hbA hS (vp_in_iff.mpr ⟨by decide, by rw [hL]; decide⟩) dL_law_991 ?_
  refine lv_topi (fun x_4 ex_4 => ?_)
  obtain rfl : z2 = x_4 := ez2.trans ex_4.symm
  have hPc := hP.sub (ws' := [(h0, .inr (8, [.ref hRows, .ref hMer, .ref hEra, .ref hTape, .ref hRea, .ref hTra, .ref hWor, .ref hPla, .ref hMod, .ref hHe1, .ref hHe2, .int 0, .int 0, .int 0, .int 0, .int (-1), .int 0]))]) [0] rfl
  have hDc := hD.sub (ws' := [(h0, .inr (8, [.ref hRows, .ref hMer, .ref hEra, .ref hTape, .ref hRea, .ref hTra, .ref hWor, .ref hPla, .ref hMod, .ref hHe1, .ref hHe2, .int 0, .int 0, .int 0, .int 0, .int (-1), .int 0]))]) [0] (by decide) rfl
  have hKc := hK.sub (tys' := []) [] rfl
  have hFc := va_free (wc := [(h0, .inr (8, [.ref hRows, .ref hMer, .ref hEra, .ref hTape, .ref hRea, .ref hTra, .ref hWor, .ref hPla, .ref hMod, .ref hHe1, .ref hHe2, .int 0, .int 0, .int 0, .int 0, .int (-1), .int 0]))]) hD hS hA [0] rfl
  refine va_calli (va_runV (As := [.int z1, .int z2]) (rest := []) ⟨hx, hb, hml, hown, hts⟩ (c_X8_misses l dC dI H.size h0 hRows hMer hEra hTape hRea hTra hWor hPla hMod hHe1 hHe2 z1 z2 ) (cwV 2 hts gL_law_X8_misses rfl rfl rfl (by decide +kernel) ⟨Nat.le_of_ble_eq_true rfl, Nat.le_of_ble_eq_true rfl⟩) ⟨fun a U g mk q => by obtain ⟨q0, q1, qP, qK, qD, qN⟩ := q; exact ⟨q0, q1, qP, va_K.moved (u := U) (U := U.calling g mk a) (Vm.Alike.refl U.vm) qK, qD, qN.same rfl⟩, va_recv hKc hPc (ci := 8) (q0 := 0) rfl rfl, fun U hU hW => ⟨rfl, by rw [hU], by rw [hU]; exact hPc, va_K.moved hW.alike hKc, hDc.weaken (fun _ _ _ _ => trivial), hN.warm hW⟩⟩ rfl rfl hl.1 rfl (lv_room (Nat.le_of_ble_eq_true rfl)) dL_law_992 ⟨Nat.le_of_ble_eq_true rfl, Nat.le_of_ble_eq_true rfl⟩) hS (fun q _ h => hFc q h) hFc (fun r_5 u_6 t H1 locs ht hvm hw_7 hB hz1 hk1 hS => ?_)
  try dsimp only at hw_7
  have hP1 : va_P (dC, dI) vwCl [] H1 := fun k q h => by simp at h
  have hD1 : va_D (va_A [(h0, .inr (8, [.ref hRows, .ref hMer, .ref hEra, .ref hTape, .ref hRea, .ref hTra, .ref hWor, .ref hPla, .ref hMod, .ref hHe1, .ref hHe2, .int 0, .int 0, .int 0, .int 0, .int (-1), .int 0]))] H.size) [] := ⟨fun i j p q h => by simp at h, fun k q h => by simp at h⟩
  have hK1 : va_K (dC, dI) vwCl [] s := hK.sub [] rfl
  obtain ⟨hP, hD⟩ := va_join (wr := [(m0, .inr (9, [.int 0, .int 0, .int 0, .ref m_rowPerson, .ref m_rowStream, .ref m_rowMoment, .ref m_rowKnown, .ref m_rowValue, .ref m_isGone, .ref m_mergeTo, .ref m_mergeKnown, .int 0, .ref m_isErased, .ref m_tape, .int 0, .int 0, .int 0, .int 0, .int (-1), .int 0, .ref m_five, .int 0, .int 0, .int 0, .int 0, .ref m_size0, .ref m_step, .ref m_stepA, .ref m_stepB, .ref m_stepC, .ref m_values, .ref m_heap, .ref m_isOne, .ref m_lawFrom, .ref m_lawTo, .ref m_hasLaw, .ref m_limits, .ref m_held, .ref m_hasKept, .ref m_kept, .ref m_keptAt, .int 0, .ref m_placeTrait, .ref m_placePerson, .ref m_placeMoment, .ref m_placeValue, .ref m_isFilled, .int 0, .ref m_uses, .ref m_heapsOne, .ref m_heapsOther]))]) (w1 := []) hP hD [0] [1] rfl rfl (by decide) (by decide) hk1 hFc hP1 hD1
  have hK := (hK.sub (tys' := []) [] rfl).app hK1
  generalize H1 = H at hP hS ⊢
  have hP : va_P (dC, dI) vwCl [(m0, .inr (9, [.int 0, .int 0, .int 0, .ref m_rowPerson, .ref m_rowStream, .ref m_rowMoment, .ref m_rowKnown, .ref m_rowValue, .ref m_isGone, .ref m_mergeTo, .ref m_mergeKnown, .int 0, .ref m_isErased, .ref m_tape, .int 0, .int 0, .int 0, .int 0, .int (-1), .int 0, .ref m_five, .int 0, .int 0, .int 0, .int 0, .ref m_size0, .ref m_step, .ref m_stepA, .ref m_stepB, .ref m_stepC, .ref m_values, .ref m_heap, .ref m_isOne, .ref m_lawFrom, .ref m_lawTo, .ref m_hasLaw, .ref m_limits, .ref m_held, .ref m_hasKept, .ref m_kept, .ref m_keptAt, .int 0, .ref m_placeTrait, .ref m_placePerson, .ref m_placeMoment, .ref m_placeValue, .ref m_isFilled, .int 0, .ref m_uses, .ref m_heapsOne, .ref m_heapsOther]))] H := hP
  have hD : va_D (fun q : Nat => s.heap.size ≤ q) [(m0, .inr (9, [.int 0, .int 0, .int 0, .ref m_rowPerson, .ref m_rowStream, .ref m_rowMoment, .ref m_rowKnown, .ref m_rowValue, .ref m_isGone, .ref m_mergeTo, .ref m_mergeKnown, .int 0, .ref m_isErased, .ref m_tape, .int 0, .int 0, .int 0, .int 0, .int (-1), .int 0, .ref m_five, .int 0, .int 0, .int 0, .int 0, .ref m_size0, .ref m_step, .ref m_stepA, .ref m_stepB, .ref m_stepC, .ref m_values, .ref m_heap, .ref m_isOne, .ref m_lawFrom, .ref m_lawTo, .ref m_hasLaw, .ref m_limits, .ref m_held, .ref m_hasKept, .ref m_kept, .ref m_keptAt, .int 0, .ref m_placeTrait, .ref m_placePerson, .ref m_placeMoment, .ref m_placeValue, .ref m_isFilled, .int 0, .ref m_uses, .ref m_heapsOne, .ref m_heapsOther]))] := hD
  have hK : va_K (dC, dI) vwCl [] s := hK
  obtain rfl : (-1) = r_5 := hw_7.symm
  refine lv_aload_n hx hb dL_law_995 rfl (lv_at hl 1 rfl) ?_
  refine lv_aload_n hx hb dL_law_996 rfl (lv_at hl 3 rfl) ?_
  refine lv_iload_n hx hb dL_law_997 rfl (lv_at hl 0 rfl) ?_
  refine lv_iconst (v := 1) hx hb dL_law_998 (by decide) ?_
  refine lv_iadd hx hb dL_law_999 ?_
  refine lv_topi (fun x_8 ex_8 => ?_)
  obtain rfl : x_8 = 1 := ex_8.trans (by decide)
  refine va_sld hx hb hX hbl hbA hS (vp_in_iff.mpr ⟨by decide, by rw [hL]; decide⟩) dL_law_1000 ?_
  refine lv_topi (fun x_9 ex_9 => ?_)
  obtain rfl : z1 = x_9 := ez1.trans ex_9.symm
  refine lv_aload_n hx hb dL_law_1001 rfl (lv_at hl 3 rfl) ?_
  refine lv_iload_n hx hb dL_law_1002 rfl (lv_at hl 0 rfl) ?_
  refine lv_iconst (v := 2) hx hb dL_law_1003 (by decide) ?_
  refine lv_iadd hx hb dL_law_1004 ?_
  refine lv_topi (fun x_10 ex_10 => ?_)
  obtain rfl : x_10 = 2 := ex_10.trans (by decide)
  refine va_sld hx hb hX hbl hbA hS (vp_in_iff.mpr ⟨by decide, by rw [hL]; decide⟩) dL_law_1005 ?_
  refine lv_topi (fun x_11 ex_11 => ?_)
  obtain rfl : z2 = x_11 := ez2.trans ex_11.symm
  have hPc := hP.sub (ws' := [(m0, .inr (9, [.int 0, .int 0, .int 0, .ref m_rowPerson, .ref m_rowStream, .ref m_rowMoment, .ref m_rowKnown, .ref m_rowValue, .ref m_isGone, .ref m_mergeTo, .ref m_mergeKnown, .int 0, .ref m_isErased, .ref m_tape, .int 0, .int 0, .int 0, .int 0, .int (-1), .int 0, .ref m_five, .int 0, .int 0, .int 0, .int 0, .ref m_size0, .ref m_step, .ref m_stepA, .ref m_stepB, .ref m_stepC, .ref m_values, .ref m_heap, .ref m_isOne, .ref m_lawFrom, .ref m_lawTo, .ref m_hasLaw, .ref m_limits, .ref m_held, .ref m_hasKept, .ref m_kept, .ref m_keptAt, .int 0, .ref m_placeTrait, .ref m_placePerson, .ref m_placeMoment, .ref m_placeValue, .ref m_isFilled, .int 0, .ref m_uses, .ref m_heapsOne, .ref m_heapsOther]))]) [0] rfl
  have hDc := hD.sub (ws' := [(m0, .inr (9, [.int 0, .int 0, .int 0, .ref m_rowPerson, .ref m_rowStream, .ref m_rowMoment, .ref m_rowKnown, .ref m_rowValue, .ref m_isGone, .ref m_mergeTo, .ref m_mergeKnown, .int 0, .ref m_isErased, .ref m_tape, .int 0, .int 0, .int 0, .int 0, .int (-1), .int 0, .ref m_five, .int 0, .int 0, .int 0, .int 0, .ref m_size0, .ref m_step, .ref m_stepA, .ref m_stepB, .ref m_stepC, .ref m_values, .ref m_heap, .ref m_isOne, .ref m_lawFrom, .ref m_lawTo, .ref m_hasLaw, .ref m_limits, .ref m_held, .ref m_hasKept, .ref m_kept, .ref m_keptAt, .int 0, .ref m_placeTrait, .ref m_placePerson, .ref m_placeMoment, .ref m_placeValue, .ref m_isFilled, .int 0, .ref m_uses, .ref m_heapsOne, .ref m_heapsOther]))]) [0] (by decide) rfl
  have hKc := hK.sub (tys' := []) [] rfl
  have hFc := va_free (wc := [(m0, .inr (9, [.int 0, .int 0, .int 0, .ref m_rowPerson, .ref m_rowStream, .ref m_rowMoment, .ref m_rowKnown, .ref m_rowValue, .ref m_isGone, .ref m_mergeTo, .ref m_mergeKnown, .int 0, .ref m_isErased, .ref m_tape, .int 0, .int 0, .int 0, .int 0, .int (-1), .int 0, .ref m_five, .int 0, .int 0, .int 0, .int 0, .ref m_size0, .ref m_step, .ref m_stepA, .ref m_stepB, .ref m_stepC, .ref m_values, .ref m_heap, .ref m_isOne, .ref m_lawFrom, .ref m_lawTo, .ref m_hasLaw, .ref m_limits, .ref m_held, .ref m_hasKept, .ref m_kept, .ref m_keptAt, .int 0, .ref m_placeTrait, .ref m_placePerson, .ref m_placeMoment, .ref m_placeValue, .ref m_isFilled, .int 0, .ref m_uses, .ref m_heapsOne, .ref m_heapsOther]))]) hD hS hA [0] rfl
  refine va_calli (va_runV (As := [.int z1, .int z2]) (rest := [.int (-1)]) ⟨hx, hb, hml, hown, hts⟩ (c_X9_misses l dC dI H.size m0 m_rowPerson m_rowStream m_rowMoment m_rowKnown m_rowValue m_isGone m_mergeTo m_mergeKnown m_isErased m_tape m_five m_size0 m_step m_stepA m_stepB m_stepC m_values m_heap m_isOne m_lawFrom m_lawTo m_hasLaw m_limits m_held m_hasKept m_kept m_keptAt m_placeTrait m_placePerson m_placeMoment m_placeValue m_isFilled m_uses m_heapsOne m_heapsOther z1 z2 ) (cwV 2 hts gL_law_X9_misses rfl rfl rfl (by decide +kernel) ⟨Nat.le_of_ble_eq_true rfl, Nat.le_of_ble_eq_true rfl⟩) ⟨fun a U g mk q => by obtain ⟨q0, q1, qP, qK, qD, qN⟩ := q; exact ⟨q0, q1, qP, va_K.moved (u := U) (U := U.calling g mk a) (Vm.Alike.refl U.vm) qK, qD, qN.same rfl⟩, va_recv hKc hPc (ci := 9) (q0 := 0) rfl rfl, fun U hU hW => ⟨rfl, by rw [hU], by rw [hU]; exact hPc, va_K.moved hW.alike hKc, hDc.weaken (fun _ _ _ _ => trivial), hN.warm hW⟩⟩ rfl rfl hl.1 rfl (lv_room (Nat.le_of_ble_eq_true rfl)) dL_law_1006 ⟨Nat.le_of_ble_eq_true rfl, Nat.le_of_ble_eq_true rfl⟩) hS (fun q _ h => hFc q h) hFc (fun r_12 u_13 t H1 locs ht hvm hw_14 hB hz1 hk1 hS => ?_)
  try dsimp only at hw_14
  have hP1 : va_P (dC, dI) vwCl [] H1 := fun k q h => by simp at h
  have hD1 : va_D (va_A [(m0, .inr (9, [.int 0, .int 0, .int 0, .ref m_rowPerson, .ref m_rowStream, .ref m_rowMoment, .ref m_rowKnown, .ref m_rowValue, .ref m_isGone, .ref m_mergeTo, .ref m_mergeKnown, .int 0, .ref m_isErased, .ref m_tape, .int 0, .int 0, .int 0, .int 0, .int (-1), .int 0, .ref m_five, .int 0, .int 0, .int 0, .int 0, .ref m_size0, .ref m_step, .ref m_stepA, .ref m_stepB, .ref m_stepC, .ref m_values, .ref m_heap, .ref m_isOne, .ref m_lawFrom, .ref m_lawTo, .ref m_hasLaw, .ref m_limits, .ref m_held, .ref m_hasKept, .ref m_kept, .ref m_keptAt, .int 0, .ref m_placeTrait, .ref m_placePerson, .ref m_placeMoment, .ref m_placeValue, .ref m_isFilled, .int 0, .ref m_uses, .ref m_heapsOne, .ref m_heapsOther]))] H.size) [] := ⟨fun i j p q h => by simp at h, fun k q h => by simp at h⟩
  have hK1 : va_K (dC, dI) vwCl [] s := hK.sub [] rfl
  obtain ⟨hP, hD⟩ := va_join (wr := []) (w1 := []) hP hD [0] [] rfl rfl (by decide) (by decide) hk1 hFc hP1 hD1
  have hK := (hK.sub (tys' := []) [] rfl).app hK1
  generalize H1 = H at hP hS ⊢
  have hP : va_P (dC, dI) vwCl [] H := hP
  have hD : va_D (fun q : Nat => s.heap.size ≤ q) [] := hD
  have hK : va_K (dC, dI) vwCl [] s := hK
  obtain rfl : (-1) = r_12 := hw_14.symm
  refine lv_icmp_eq (tgt := 1234) hx hb dL_law_1009 (by decide) (fun c_15 => ?_) (fun c_15 => ?_)
  · exact law_tail hL C0 hS (lv_sub hl [0, 3] rfl)
  · exact absurd rfl c_15

set_option maxHeartbeats 4000000 in
set_option maxRecDepth 100000 in
theorem law_shift {p : Program} {l : Launch} {e : Env} {s : State} {m : MethodId} {below : List Frame} {meth : Method} {c : Code} {dC : Nat → ClassId} {dI : Nat → Nat → Nat} {b L : Nat} {xs : Nat → Int32} (hL : L = 11) (C0 : lw_At p s m meth c b L xs) (hN : nw_ok s) (h0 : Nat) (hRows : Nat) (hMer : Nat) (hEra : Nat) (hTape : Nat) (hRea : Nat) (hTra : Nat) (hWor : Nat) (hPla : Nat) (hMod : Nat) (hHe1 : Nat) (hHe2 : Nat) (m0 : Nat) (m_rowPerson : Nat) (m_rowStream : Nat) (m_rowMoment : Nat) (m_rowKnown : Nat) (m_rowValue : Nat) (m_isGone : Nat) (m_mergeTo : Nat) (m_mergeKnown : Nat) (m_isErased : Nat) (m_tape : Nat) (m_five : Nat) (m_size0 : Nat) (m_step : Nat) (m_stepA : Nat) (m_stepB : Nat) (m_stepC : Nat) (m_values : Nat) (m_heap : Nat) (m_isOne : Nat) (m_lawFrom : Nat) (m_lawTo : Nat) (m_hasLaw : Nat) (m_limits : Nat) (m_held : Nat) (m_hasKept : Nat) (m_kept : Nat) (m_keptAt : Nat) (m_placeTrait : Nat) (m_placePerson : Nat) (m_placeMoment : Nat) (m_placeValue : Nat) (m_isFilled : Nat) (m_uses : Nat) (m_heapsOne : Nat) (m_heapsOther : Nat)  (H : Heap) (locs : List Loc) (hK : va_K (dC, dI) vwCl [] s) (hP : va_P (dC, dI) vwCl [(h0, .inr (8, [.ref hRows, .ref hMer, .ref hEra, .ref hTape, .ref hRea, .ref hTra, .ref hWor, .ref hPla, .ref hMod, .ref hHe1, .ref hHe2, .int 0, .int 0, .int 0, .int 0, .int (-1), .int 0])), (m0, .inr (9, [.int 0, .int 0, .int 0, .ref m_rowPerson, .ref m_rowStream, .ref m_rowMoment, .ref m_rowKnown, .ref m_rowValue, .ref m_isGone, .ref m_mergeTo, .ref m_mergeKnown, .int 0, .ref m_isErased, .ref m_tape, .int 0, .int 0, .int 0, .int 0, .int (-1), .int 0, .ref m_five, .int 0, .int 0, .int 0, .int 0, .ref m_size0, .ref m_step, .ref m_stepA, .ref m_stepB, .ref m_stepC, .ref m_values, .ref m_heap, .ref m_isOne, .ref m_lawFrom, .ref m_lawTo, .ref m_hasLaw, .ref m_limits, .ref m_held, .ref m_hasKept, .ref m_kept, .ref m_keptAt, .int 0, .ref m_placeTrait, .ref m_placePerson, .ref m_placeMoment, .ref m_placeValue, .ref m_isFilled, .int 0, .ref m_uses, .ref m_heapsOne, .ref m_heapsOther]))] H) (hD : va_D (fun q : Nat => s.heap.size ≤ q) [(h0, .inr (8, [.ref hRows, .ref hMer, .ref hEra, .ref hTape, .ref hRea, .ref hTra, .ref hWor, .ref hPla, .ref hMod, .ref hHe1, .ref hHe2, .int 0, .int 0, .int 0, .int 0, .int (-1), .int 0])), (m0, .inr (9, [.int 0, .int 0, .int 0, .ref m_rowPerson, .ref m_rowStream, .ref m_rowMoment, .ref m_rowKnown, .ref m_rowValue, .ref m_isGone, .ref m_mergeTo, .ref m_mergeKnown, .int 0, .ref m_isErased, .ref m_tape, .int 0, .int 0, .int 0, .int 0, .int (-1), .int 0, .ref m_five, .int 0, .int 0, .int 0, .int 0, .ref m_size0, .ref m_step, .ref m_stepA, .ref m_stepB, .ref m_stepC, .ref m_values, .ref m_heap, .ref m_isOne, .ref m_lawFrom, .ref m_lawTo, .ref m_hasLaw, .ref m_limits, .ref m_held, .ref m_hasKept, .ref m_kept, .ref m_keptAt, .int 0, .ref m_placeTrait, .ref m_placePerson, .ref m_placeMoment, .ref m_placeValue, .ref m_isFilled, .int 0, .ref m_uses, .ref m_heapsOne, .ref m_heapsOther]))]) (hS : va_S (fun q : Nat => s.heap.size ≤ q) s.heap H locs) (ls : Array Slot) (hl : lv_has ls 4 [(3, .int 0), (2, .ref m0), (1, .ref h0), (0, .ref b)]) : W p l e room_1 s m #[Value.ref b] below meth c H locs 600000 7302250 (lw_Z below #[Value.ref b] s) (F0 m 1014 ls []) := by
  obtain ⟨hx, hb, hr, hml, hown, hts, hX, hbl, hlocks, hgv⟩ := id C0
  have hts := fun w h => hts w (wsL_law_in w h)
  have hown : s.vm.findClass RL = some m.cls := hown
  have hA : ∀ q : Nat, s.heap.size ≤ q → (fun q : Nat => s.heap.size ≤ q) q := fun _ h => h
  have hbA : ¬ (fun q : Nat => s.heap.size ≤ q) b := Nat.not_le.mpr hbl
  obtain ⟨z1, ez1⟩ : ∃ z : Int32, z = xs (1 : Int32).toNatClampNeg := ⟨_, rfl⟩
  obtain ⟨z2, ez2⟩ : ∃ z : Int32, z = xs (2 : Int32).toNatClampNeg := ⟨_, rfl⟩
  obtain ⟨z3, ez3⟩ : ∃ z : Int32, z = xs (3 : Int32).toNatClampNeg := ⟨_, rfl⟩
  obtain ⟨z4, ez4⟩ : ∃ z : Int32, z = xs (4 : Int32).toNatClampNeg := ⟨_, rfl⟩
  obtain ⟨z5, ez5⟩ : ∃ z : Int32, z = xs (5 : Int32).toNatClampNeg := ⟨_, rfl⟩
  obtain ⟨z6, ez6⟩ : ∃ z : Int32, z = xs (6 : Int32).toNatClampNeg := ⟨_, rfl⟩
  obtain ⟨z7, ez7⟩ : ∃ z : Int32, z = xs (7 : Int32).toNatClampNeg := ⟨_, rfl⟩
  obtain ⟨z8, ez8⟩ : ∃ z : Int32, z = xs (8 : Int32).toNatClampNeg := ⟨_, rfl⟩
  obtain ⟨z9, ez9⟩ : ∃ z : Int32, z = xs (9 : Int32).toNatClampNeg := ⟨_, rfl⟩
  obtain ⟨z10, ez10⟩ : ∃ z : Int32, z = xs (10 : Int32).toNatClampNeg := ⟨_, rfl⟩
  refine lv_aload_n hx hb dL_law_1014 rfl (lv_at hl 2 rfl) ?_
  refine lv_aload_n hx hb dL_law_1015 rfl (lv_at hl 3 rfl) ?_
  refine lv_iload_n hx hb dL_law_1016 rfl (lv_at hl 0 rfl) ?_
  refine lv_iconst (v := 1) hx hb dL_law_1017 (by decide) ?_
  refine lv_iadd hx hb dL_law_1018 ?_
  refine lv_topi (fun x_1 ex_1 => ?_)
  obtain rfl : x_1 = 1 := ex_1.trans (by decide)
  refine va_sld hx hb hX hbl hbA hS (vp_in_iff.mpr ⟨by decide, by rw [hL]; decide⟩) dL_law_1019 ?_
  refine lv_topi (fun x_2 ex_2 => ?_)
  obtain rfl : z1 = x_2 := ez1.trans ex_2.symm
  refine lv_aload_n hx hb dL_law_1020 rfl (lv_at hl 3 rfl) ?_
  refine lv_iload_n hx hb dL_law_1021 rfl (lv_at hl 0 rfl) ?_
  refine lv_iconst (v := 2) hx hb dL_law_1022 (by decide) ?_
  refine lv_iadd hx hb dL_law_1023 ?_
  refine lv_topi (fun x_3 ex_3 => ?_)
  obtain rfl : x_3 = 2 := ex_3.trans (by decide)
  refine va_sld hx hb hX hbl hbA hS (vp_in_iff.mpr ⟨by decide, by rw [hL]; decide⟩) dL_law_1024 ?_
  refine lv_topi (fun x_4 ex_4 => ?_)
  obtain rfl : z2 = x_4 := ez2.trans ex_4.symm
  refine lv_aload_n hx hb dL_law_1025 rfl (lv_at hl 3 rfl) ?_
  refine lv_iload_n hx hb dL_law_1026 rfl (lv_at hl 0 rfl) ?_
  refine lv_iconst (v := 3) hx hb dL_law_1027 (by decide) ?_
  refine lv_iadd hx hb dL_law_1028 ?_
  refine lv_topi (fun x_5 ex_5 => ?_)
  obtain rfl : x_5 = 3 := ex_5.trans (by decide)
  refine va_sld hx hb hX hbl hbA hS (vp_in_iff.mpr ⟨by decide, by rw [hL]; decide⟩) dL_law_1029 ?_
  refine lv_topi (fun x_6 ex_6 => ?_)
  obtain rfl : z3 = x_6 := ez3.trans ex_6.symm
  refine lv_aload_n hx hb dL_law_1030 rfl (lv_at hl 3 rfl) ?_
  refine lv_iload_n hx hb dL_law_1031 rfl (lv_at hl 0 rfl) ?_
  refine lv_iconst (v := 4) hx hb dL_law_1032 (by decide) ?_
  refine lv_iadd hx hb dL_law_1033 ?_
  refine lv_topi (fun x_7 ex_7 => ?_)
  obtain rfl : x_7 = 4 := ex_7.trans (by decide)
  refine va_sld hx hb hX hbl hbA hS (vp_in_iff.mpr ⟨by decide, by rw [hL]; decide⟩) dL_law_1034 ?_
  refine lv_topi (fun x_8 ex_8 => ?_)
  obtain rfl : z4 = x_8 := ez4.trans ex_8.symm
  refine lv_i2l (v := z4.toInt64) hx hb dL_law_1035 rfl ?_
  refine lv_bipush (v := 32) hx hb dL_law_1036 (by decide) ?_
  refine lv_lshl (v := z4.toInt64 <<< ((32 : Int32).toInt64 &&& 63)) hx hb dL_law_1038 rfl ?_
  refine lv_aload_n hx hb dL_law_1039 rfl (lv_at hl 3 rfl) ?_
  refine lv_iload_n hx hb dL_law_1040 rfl (lv_at hl 0 rfl) ?_
  refine lv_iconst (v := 5) hx hb dL_law_1041 (by decide) ?_
  refine lv_iadd hx hb dL_law_1042 ?_
  refine lv_topi (fun x_9 ex_9 => ?_)
  obtain rfl : x_9 = 5 := ex_9.trans (by decide)
  refine va_sld hx hb hX hbl hbA hS (vp_in_iff.mpr ⟨by decide, by rw [hL]; decide⟩) dL_law_1043 ?_
  refine lv_topi (fun x_10 ex_10 => ?_)
  obtain rfl : z5 = x_10 := ez5.trans ex_10.symm
  refine lv_i2l (v := z5.toInt64) hx hb dL_law_1044 rfl ?_
  refine lv_ldc2 hx hb hown (hts (.constantLong RL 59 (4294967295)) (by decide +kernel)) dL_law_1045 ?_
  refine lv_land hx hb dL_law_1048 ?_
  refine lv_lor hx hb dL_law_1049 ?_
  refine lv_aload_n hx hb dL_law_1050 rfl (lv_at hl 3 rfl) ?_
  refine lv_iload_n hx hb dL_law_1051 rfl (lv_at hl 0 rfl) ?_
  refine lv_bipush (v := 6) hx hb dL_law_1052 (by decide) ?_
  refine lv_iadd hx hb dL_law_1054 ?_
  refine lv_topi (fun x_11 ex_11 => ?_)
  obtain rfl : x_11 = 6 := ex_11.trans (by decide)
  refine va_sld hx hb hX hbl hbA hS (vp_in_iff.mpr ⟨by decide, by rw [hL]; decide⟩) dL_law_1055 ?_
  refine lv_topi (fun x_12 ex_12 => ?_)
  obtain rfl : z6 = x_12 := ez6.trans ex_12.symm
  refine lv_i2l (v := z6.toInt64) hx hb dL_law_1056 rfl ?_
  refine lv_bipush (v := 32) hx hb dL_law_1057 (by decide) ?_
  refine lv_lshl (v := z6.toInt64 <<< ((32 : Int32).toInt64 &&& 63)) hx hb dL_law_1059 rfl ?_
  refine lv_aload_n hx hb dL_law_1060 rfl (lv_at hl 3 rfl) ?_
  refine lv_iload_n hx hb dL_law_1061 rfl (lv_at hl 0 rfl) ?_
  refine lv_bipush (v := 7) hx hb dL_law_1062 (by decide) ?_
  refine lv_iadd hx hb dL_law_1064 ?_
  refine lv_topi (fun x_13 ex_13 => ?_)
  obtain rfl : x_13 = 7 := ex_13.trans (by decide)
  refine va_sld hx hb hX hbl hbA hS (vp_in_iff.mpr ⟨by decide, by rw [hL]; decide⟩) dL_law_1065 ?_
  refine lv_topi (fun x_14 ex_14 => ?_)
  obtain rfl : z7 = x_14 := ez7.trans ex_14.symm
  refine lv_i2l (v := z7.toInt64) hx hb dL_law_1066 rfl ?_
  refine lv_ldc2 hx hb hown (hts (.constantLong RL 59 (4294967295)) (by decide +kernel)) dL_law_1067 ?_
  refine lv_land hx hb dL_law_1070 ?_
  refine lv_lor hx hb dL_law_1071 ?_
  refine lv_aload_n hx hb dL_law_1072 rfl (lv_at hl 3 rfl) ?_
  refine lv_iload_n hx hb dL_law_1073 rfl (lv_at hl 0 rfl) ?_
  refine lv_bipush (v := 8) hx hb dL_law_1074 (by decide) ?_
  refine lv_iadd hx hb dL_law_1076 ?_
  refine lv_topi (fun x_15 ex_15 => ?_)
  obtain rfl : x_15 = 8 := ex_15.trans (by decide)
  refine va_sld hx hb hX hbl hbA hS (vp_in_iff.mpr ⟨by decide, by rw [hL]; decide⟩) dL_law_1077 ?_
  refine lv_topi (fun x_16 ex_16 => ?_)
  obtain rfl : z8 = x_16 := ez8.trans ex_16.symm
  refine lv_i2l (v := z8.toInt64) hx hb dL_law_1078 rfl ?_
  refine lv_bipush (v := 32) hx hb dL_law_1079 (by decide) ?_
  refine lv_lshl (v := z8.toInt64 <<< ((32 : Int32).toInt64 &&& 63)) hx hb dL_law_1081 rfl ?_
  refine lv_aload_n hx hb dL_law_1082 rfl (lv_at hl 3 rfl) ?_
  refine lv_iload_n hx hb dL_law_1083 rfl (lv_at hl 0 rfl) ?_
  refine lv_bipush (v := 9) hx hb dL_law_1084 (by decide) ?_
  refine lv_iadd hx hb dL_law_1086 ?_
  refine lv_topi (fun x_17 ex_17 => ?_)
  obtain rfl : x_17 = 9 := ex_17.trans (by decide)
  refine va_sld hx hb hX hbl hbA hS (vp_in_iff.mpr ⟨by decide, by rw [hL]; decide⟩) dL_law_1087 ?_
  refine lv_topi (fun x_18 ex_18 => ?_)
  obtain rfl : z9 = x_18 := ez9.trans ex_18.symm
  refine lv_i2l (v := z9.toInt64) hx hb dL_law_1088 rfl ?_
  refine lv_ldc2 hx hb hown (hts (.constantLong RL 59 (4294967295)) (by decide +kernel)) dL_law_1089 ?_
  refine lv_land hx hb dL_law_1092 ?_
  refine lv_lor hx hb dL_law_1093 ?_
  refine lv_aload_n hx hb dL_law_1094 rfl (lv_at hl 3 rfl) ?_
  refine lv_iload_n hx hb dL_law_1095 rfl (lv_at hl 0 rfl) ?_
  refine lv_bipush (v := 10) hx hb dL_law_1096 (by decide) ?_
  refine lv_iadd hx hb dL_law_1098 ?_
  refine lv_topi (fun x_19 ex_19 => ?_)
  obtain rfl : x_19 = 10 := ex_19.trans (by decide)
  refine va_sld hx hb hX hbl hbA hS (vp_in_iff.mpr ⟨by decide, by rw [hL]; decide⟩) dL_law_1099 ?_
  refine lv_topi (fun x_20 ex_20 => ?_)
  obtain rfl : z10 = x_20 := ez10.trans ex_20.symm
  have hPc := hP.sub (ws' := [(h0, .inr (8, [.ref hRows, .ref hMer, .ref hEra, .ref hTape, .ref hRea, .ref hTra, .ref hWor, .ref hPla, .ref hMod, .ref hHe1, .ref hHe2, .int 0, .int 0, .int 0, .int 0, .int (-1), .int 0]))]) [0] rfl
  have hDc := hD.sub (ws' := [(h0, .inr (8, [.ref hRows, .ref hMer, .ref hEra, .ref hTape, .ref hRea, .ref hTra, .ref hWor, .ref hPla, .ref hMod, .ref hHe1, .ref hHe2, .int 0, .int 0, .int 0, .int 0, .int (-1), .int 0]))]) [0] (by decide) rfl
  have hKc := hK.sub (tys' := []) [] rfl
  have hFc := va_free (wc := [(h0, .inr (8, [.ref hRows, .ref hMer, .ref hEra, .ref hTape, .ref hRea, .ref hTra, .ref hWor, .ref hPla, .ref hMod, .ref hHe1, .ref hHe2, .int 0, .int 0, .int 0, .int 0, .int (-1), .int 0]))]) hD hS hA [0] rfl
  refine va_calll (va_runV (As := [.int z1, .int z2, .int z3, .long ((z4.toInt64 <<< ((32 : Int32).toInt64 &&& 63)) ||| (z5.toInt64 &&& 4294967295)), .long ((z6.toInt64 <<< ((32 : Int32).toInt64 &&& 63)) ||| (z7.toInt64 &&& 4294967295)), .long ((z8.toInt64 <<< ((32 : Int32).toInt64 &&& 63)) ||| (z9.toInt64 &&& 4294967295)), .int z10]) (rest := []) ⟨hx, hb, hml, hown, hts⟩ (c_X8_shift l dC dI H.size h0 hRows hMer hEra hTape hRea hTra hWor hPla hMod hHe1 hHe2 z1 z2 z3 ((z4.toInt64 <<< ((32 : Int32).toInt64 &&& 63)) ||| (z5.toInt64 &&& 4294967295)) ((z6.toInt64 <<< ((32 : Int32).toInt64 &&& 63)) ||| (z7.toInt64 &&& 4294967295)) ((z8.toInt64 <<< ((32 : Int32).toInt64 &&& 63)) ||| (z9.toInt64 &&& 4294967295)) z10 ) (cwV 7 hts gL_law_X8_shift rfl rfl rfl (by decide +kernel) ⟨Nat.le_of_ble_eq_true rfl, Nat.le_of_ble_eq_true rfl⟩) ⟨fun a U g mk q => by obtain ⟨q0, q1, qP, qK, qD, qN⟩ := q; exact ⟨q0, q1, qP, va_K.moved (u := U) (U := U.calling g mk a) (Vm.Alike.refl U.vm) qK, qD, qN.same rfl⟩, va_recv hKc hPc (ci := 8) (q0 := 0) rfl rfl, fun U hU hW => ⟨rfl, by rw [hU], by rw [hU]; exact hPc, va_K.moved hW.alike hKc, hDc.weaken (fun _ _ _ _ => trivial), hN.warm hW⟩⟩ rfl rfl hl.1 rfl (lv_room (Nat.le_of_ble_eq_true rfl)) dL_law_1100 ⟨Nat.le_of_ble_eq_true rfl, Nat.le_of_ble_eq_true rfl⟩) hS (fun q _ h => hFc q h) hFc (fun r_21 u_22 t H1 locs ht hvm hw_23 hB hz1 hk1 hS => ?_)
  try dsimp only at hw_23
  have hP1 : va_P (dC, dI) vwCl [] H1 := fun k q h => by simp at h
  have hD1 : va_D (va_A [(h0, .inr (8, [.ref hRows, .ref hMer, .ref hEra, .ref hTape, .ref hRea, .ref hTra, .ref hWor, .ref hPla, .ref hMod, .ref hHe1, .ref hHe2, .int 0, .int 0, .int 0, .int 0, .int (-1), .int 0]))] H.size) [] := ⟨fun i j p q h => by simp at h, fun k q h => by simp at h⟩
  have hK1 : va_K (dC, dI) vwCl [] s := hK.sub [] rfl
  obtain ⟨hP, hD⟩ := va_join (wr := [(m0, .inr (9, [.int 0, .int 0, .int 0, .ref m_rowPerson, .ref m_rowStream, .ref m_rowMoment, .ref m_rowKnown, .ref m_rowValue, .ref m_isGone, .ref m_mergeTo, .ref m_mergeKnown, .int 0, .ref m_isErased, .ref m_tape, .int 0, .int 0, .int 0, .int 0, .int (-1), .int 0, .ref m_five, .int 0, .int 0, .int 0, .int 0, .ref m_size0, .ref m_step, .ref m_stepA, .ref m_stepB, .ref m_stepC, .ref m_values, .ref m_heap, .ref m_isOne, .ref m_lawFrom, .ref m_lawTo, .ref m_hasLaw, .ref m_limits, .ref m_held, .ref m_hasKept, .ref m_kept, .ref m_keptAt, .int 0, .ref m_placeTrait, .ref m_placePerson, .ref m_placeMoment, .ref m_placeValue, .ref m_isFilled, .int 0, .ref m_uses, .ref m_heapsOne, .ref m_heapsOther]))]) (w1 := []) hP hD [0] [1] rfl rfl (by decide) (by decide) hk1 hFc hP1 hD1
  have hK := (hK.sub (tys' := []) [] rfl).app hK1
  generalize H1 = H at hP hS ⊢
  have hP : va_P (dC, dI) vwCl [(m0, .inr (9, [.int 0, .int 0, .int 0, .ref m_rowPerson, .ref m_rowStream, .ref m_rowMoment, .ref m_rowKnown, .ref m_rowValue, .ref m_isGone, .ref m_mergeTo, .ref m_mergeKnown, .int 0, .ref m_isErased, .ref m_tape, .int 0, .int 0, .int 0, .int 0, .int (-1), .int 0, .ref m_five, .int 0, .int 0, .int 0, .int 0, .ref m_size0, .ref m_step, .ref m_stepA, .ref m_stepB, .ref m_stepC, .ref m_values, .ref m_heap, .ref m_isOne, .ref m_lawFrom, .ref m_lawTo, .ref m_hasLaw, .ref m_limits, .ref m_held, .ref m_hasKept, .ref m_kept, .ref m_keptAt, .int 0, .ref m_placeTrait, .ref m_placePerson, .ref m_placeMoment, .ref m_placeValue, .ref m_isFilled, .int 0, .ref m_uses, .ref m_heapsOne, .ref m_heapsOther]))] H := hP
  have hD : va_D (fun q : Nat => s.heap.size ≤ q) [(m0, .inr (9, [.int 0, .int 0, .int 0, .ref m_rowPerson, .ref m_rowStream, .ref m_rowMoment, .ref m_rowKnown, .ref m_rowValue, .ref m_isGone, .ref m_mergeTo, .ref m_mergeKnown, .int 0, .ref m_isErased, .ref m_tape, .int 0, .int 0, .int 0, .int 0, .int (-1), .int 0, .ref m_five, .int 0, .int 0, .int 0, .int 0, .ref m_size0, .ref m_step, .ref m_stepA, .ref m_stepB, .ref m_stepC, .ref m_values, .ref m_heap, .ref m_isOne, .ref m_lawFrom, .ref m_lawTo, .ref m_hasLaw, .ref m_limits, .ref m_held, .ref m_hasKept, .ref m_kept, .ref m_keptAt, .int 0, .ref m_placeTrait, .ref m_placePerson, .ref m_placeMoment, .ref m_placeValue, .ref m_isFilled, .int 0, .ref m_uses, .ref m_heapsOne, .ref m_heapsOther]))] := hD
  have hK : va_K (dC, dI) vwCl [] s := hK
  refine lv_aload_n hx hb dL_law_1103 rfl (lv_at hl 1 rfl) ?_
  refine lv_aload_n hx hb dL_law_1104 rfl (lv_at hl 3 rfl) ?_
  refine lv_iload_n hx hb dL_law_1105 rfl (lv_at hl 0 rfl) ?_
  refine lv_iconst (v := 1) hx hb dL_law_1106 (by decide) ?_
  refine lv_iadd hx hb dL_law_1107 ?_
  refine lv_topi (fun x_24 ex_24 => ?_)
  obtain rfl : x_24 = 1 := ex_24.trans (by decide)
  refine va_sld hx hb hX hbl hbA hS (vp_in_iff.mpr ⟨by decide, by rw [hL]; decide⟩) dL_law_1108 ?_
  refine lv_topi (fun x_25 ex_25 => ?_)
  obtain rfl : z1 = x_25 := ez1.trans ex_25.symm
  refine lv_aload_n hx hb dL_law_1109 rfl (lv_at hl 3 rfl) ?_
  refine lv_iload_n hx hb dL_law_1110 rfl (lv_at hl 0 rfl) ?_
  refine lv_iconst (v := 2) hx hb dL_law_1111 (by decide) ?_
  refine lv_iadd hx hb dL_law_1112 ?_
  refine lv_topi (fun x_26 ex_26 => ?_)
  obtain rfl : x_26 = 2 := ex_26.trans (by decide)
  refine va_sld hx hb hX hbl hbA hS (vp_in_iff.mpr ⟨by decide, by rw [hL]; decide⟩) dL_law_1113 ?_
  refine lv_topi (fun x_27 ex_27 => ?_)
  obtain rfl : z2 = x_27 := ez2.trans ex_27.symm
  refine lv_aload_n hx hb dL_law_1114 rfl (lv_at hl 3 rfl) ?_
  refine lv_iload_n hx hb dL_law_1115 rfl (lv_at hl 0 rfl) ?_
  refine lv_iconst (v := 3) hx hb dL_law_1116 (by decide) ?_
  refine lv_iadd hx hb dL_law_1117 ?_
  refine lv_topi (fun x_28 ex_28 => ?_)
  obtain rfl : x_28 = 3 := ex_28.trans (by decide)
  refine va_sld hx hb hX hbl hbA hS (vp_in_iff.mpr ⟨by decide, by rw [hL]; decide⟩) dL_law_1118 ?_
  refine lv_topi (fun x_29 ex_29 => ?_)
  obtain rfl : z3 = x_29 := ez3.trans ex_29.symm
  refine lv_aload_n hx hb dL_law_1119 rfl (lv_at hl 3 rfl) ?_
  refine lv_iload_n hx hb dL_law_1120 rfl (lv_at hl 0 rfl) ?_
  refine lv_iconst (v := 4) hx hb dL_law_1121 (by decide) ?_
  refine lv_iadd hx hb dL_law_1122 ?_
  refine lv_topi (fun x_30 ex_30 => ?_)
  obtain rfl : x_30 = 4 := ex_30.trans (by decide)
  refine va_sld hx hb hX hbl hbA hS (vp_in_iff.mpr ⟨by decide, by rw [hL]; decide⟩) dL_law_1123 ?_
  refine lv_topi (fun x_31 ex_31 => ?_)
  obtain rfl : z4 = x_31 := ez4.trans ex_31.symm
  refine lv_i2l (v := z4.toInt64) hx hb dL_law_1124 rfl ?_
  refine lv_bipush (v := 32) hx hb dL_law_1125 (by decide) ?_
  refine lv_lshl (v := z4.toInt64 <<< ((32 : Int32).toInt64 &&& 63)) hx hb dL_law_1127 rfl ?_
  refine lv_aload_n hx hb dL_law_1128 rfl (lv_at hl 3 rfl) ?_
  refine lv_iload_n hx hb dL_law_1129 rfl (lv_at hl 0 rfl) ?_
  refine lv_iconst (v := 5) hx hb dL_law_1130 (by decide) ?_
  refine lv_iadd hx hb dL_law_1131 ?_
  refine lv_topi (fun x_32 ex_32 => ?_)
  obtain rfl : x_32 = 5 := ex_32.trans (by decide)
  refine va_sld hx hb hX hbl hbA hS (vp_in_iff.mpr ⟨by decide, by rw [hL]; decide⟩) dL_law_1132 ?_
  refine lv_topi (fun x_33 ex_33 => ?_)
  obtain rfl : z5 = x_33 := ez5.trans ex_33.symm
  refine lv_i2l (v := z5.toInt64) hx hb dL_law_1133 rfl ?_
  refine lv_ldc2 hx hb hown (hts (.constantLong RL 59 (4294967295)) (by decide +kernel)) dL_law_1134 ?_
  refine lv_land hx hb dL_law_1137 ?_
  refine lv_lor hx hb dL_law_1138 ?_
  refine lv_aload_n hx hb dL_law_1139 rfl (lv_at hl 3 rfl) ?_
  refine lv_iload_n hx hb dL_law_1140 rfl (lv_at hl 0 rfl) ?_
  refine lv_bipush (v := 6) hx hb dL_law_1141 (by decide) ?_
  refine lv_iadd hx hb dL_law_1143 ?_
  refine lv_topi (fun x_34 ex_34 => ?_)
  obtain rfl : x_34 = 6 := ex_34.trans (by decide)
  refine va_sld hx hb hX hbl hbA hS (vp_in_iff.mpr ⟨by decide, by rw [hL]; decide⟩) dL_law_1144 ?_
  refine lv_topi (fun x_35 ex_35 => ?_)
  obtain rfl : z6 = x_35 := ez6.trans ex_35.symm
  refine lv_i2l (v := z6.toInt64) hx hb dL_law_1145 rfl ?_
  refine lv_bipush (v := 32) hx hb dL_law_1146 (by decide) ?_
  refine lv_lshl (v := z6.toInt64 <<< ((32 : Int32).toInt64 &&& 63)) hx hb dL_law_1148 rfl ?_
  refine lv_aload_n hx hb dL_law_1149 rfl (lv_at hl 3 rfl) ?_
  refine lv_iload_n hx hb dL_law_1150 rfl (lv_at hl 0 rfl) ?_
  refine lv_bipush (v := 7) hx hb dL_law_1151 (by decide) ?_
  refine lv_iadd hx hb dL_law_1153 ?_
  refine lv_topi (fun x_36 ex_36 => ?_)
  obtain rfl : x_36 = 7 := ex_36.trans (by decide)
  refine va_sld hx hb hX hbl hbA hS (vp_in_iff.mpr ⟨by decide, by rw [hL]; decide⟩) dL_law_1154 ?_
  refine lv_topi (fun x_37 ex_37 => ?_)
  obtain rfl : z7 = x_37 := ez7.trans ex_37.symm
  refine lv_i2l (v := z7.toInt64) hx hb dL_law_1155 rfl ?_
  refine lv_ldc2 hx hb hown (hts (.constantLong RL 59 (4294967295)) (by decide +kernel)) dL_law_1156 ?_
  refine lv_land hx hb dL_law_1159 ?_
  refine lv_lor hx hb dL_law_1160 ?_
  refine lv_aload_n hx hb dL_law_1161 rfl (lv_at hl 3 rfl) ?_
  refine lv_iload_n hx hb dL_law_1162 rfl (lv_at hl 0 rfl) ?_
  refine lv_bipush (v := 8) hx hb dL_law_1163 (by decide) ?_
  refine lv_iadd hx hb dL_law_1165 ?_
  refine lv_topi (fun x_38 ex_38 => ?_)
  obtain rfl : x_38 = 8 := ex_38.trans (by decide)
  refine va_sld hx hb hX hbl hbA hS (vp_in_iff.mpr ⟨by decide, by rw [hL]; decide⟩) dL_law_1166 ?_
  refine lv_topi (fun x_39 ex_39 => ?_)
  obtain rfl : z8 = x_39 := ez8.trans ex_39.symm
  refine lv_i2l (v := z8.toInt64) hx hb dL_law_1167 rfl ?_
  refine lv_bipush (v := 32) hx hb dL_law_1168 (by decide) ?_
  refine lv_lshl (v := z8.toInt64 <<< ((32 : Int32).toInt64 &&& 63)) hx hb dL_law_1170 rfl ?_
  refine lv_aload_n hx hb dL_law_1171 rfl (lv_at hl 3 rfl) ?_
  refine lv_iload_n hx hb dL_law_1172 rfl (lv_at hl 0 rfl) ?_
  refine lv_bipush (v := 9) hx hb dL_law_1173 (by decide) ?_
  refine lv_iadd hx hb dL_law_1175 ?_
  refine lv_topi (fun x_40 ex_40 => ?_)
  obtain rfl : x_40 = 9 := ex_40.trans (by decide)
  refine va_sld hx hb hX hbl hbA hS (vp_in_iff.mpr ⟨by decide, by rw [hL]; decide⟩) dL_law_1176 ?_
  refine lv_topi (fun x_41 ex_41 => ?_)
  obtain rfl : z9 = x_41 := ez9.trans ex_41.symm
  refine lv_i2l (v := z9.toInt64) hx hb dL_law_1177 rfl ?_
  refine lv_ldc2 hx hb hown (hts (.constantLong RL 59 (4294967295)) (by decide +kernel)) dL_law_1178 ?_
  refine lv_land hx hb dL_law_1181 ?_
  refine lv_lor hx hb dL_law_1182 ?_
  refine lv_aload_n hx hb dL_law_1183 rfl (lv_at hl 3 rfl) ?_
  refine lv_iload_n hx hb dL_law_1184 rfl (lv_at hl 0 rfl) ?_
  refine lv_bipush (v := 10) hx hb dL_law_1185 (by decide) ?_
  refine lv_iadd hx hb dL_law_1187 ?_
  refine lv_topi (fun x_42 ex_42 => ?_)
  obtain rfl : x_42 = 10 := ex_42.trans (by decide)
  refine va_sld hx hb hX hbl hbA hS (vp_in_iff.mpr ⟨by decide, by rw [hL]; decide⟩) dL_law_1188 ?_
  refine lv_topi (fun x_43 ex_43 => ?_)
  obtain rfl : z10 = x_43 := ez10.trans ex_43.symm
  have hPc := hP.sub (ws' := [(m0, .inr (9, [.int 0, .int 0, .int 0, .ref m_rowPerson, .ref m_rowStream, .ref m_rowMoment, .ref m_rowKnown, .ref m_rowValue, .ref m_isGone, .ref m_mergeTo, .ref m_mergeKnown, .int 0, .ref m_isErased, .ref m_tape, .int 0, .int 0, .int 0, .int 0, .int (-1), .int 0, .ref m_five, .int 0, .int 0, .int 0, .int 0, .ref m_size0, .ref m_step, .ref m_stepA, .ref m_stepB, .ref m_stepC, .ref m_values, .ref m_heap, .ref m_isOne, .ref m_lawFrom, .ref m_lawTo, .ref m_hasLaw, .ref m_limits, .ref m_held, .ref m_hasKept, .ref m_kept, .ref m_keptAt, .int 0, .ref m_placeTrait, .ref m_placePerson, .ref m_placeMoment, .ref m_placeValue, .ref m_isFilled, .int 0, .ref m_uses, .ref m_heapsOne, .ref m_heapsOther]))]) [0] rfl
  have hDc := hD.sub (ws' := [(m0, .inr (9, [.int 0, .int 0, .int 0, .ref m_rowPerson, .ref m_rowStream, .ref m_rowMoment, .ref m_rowKnown, .ref m_rowValue, .ref m_isGone, .ref m_mergeTo, .ref m_mergeKnown, .int 0, .ref m_isErased, .ref m_tape, .int 0, .int 0, .int 0, .int 0, .int (-1), .int 0, .ref m_five, .int 0, .int 0, .int 0, .int 0, .ref m_size0, .ref m_step, .ref m_stepA, .ref m_stepB, .ref m_stepC, .ref m_values, .ref m_heap, .ref m_isOne, .ref m_lawFrom, .ref m_lawTo, .ref m_hasLaw, .ref m_limits, .ref m_held, .ref m_hasKept, .ref m_kept, .ref m_keptAt, .int 0, .ref m_placeTrait, .ref m_placePerson, .ref m_placeMoment, .ref m_placeValue, .ref m_isFilled, .int 0, .ref m_uses, .ref m_heapsOne, .ref m_heapsOther]))]) [0] (by decide) rfl
  have hKc := hK.sub (tys' := []) [] rfl
  have hFc := va_free (wc := [(m0, .inr (9, [.int 0, .int 0, .int 0, .ref m_rowPerson, .ref m_rowStream, .ref m_rowMoment, .ref m_rowKnown, .ref m_rowValue, .ref m_isGone, .ref m_mergeTo, .ref m_mergeKnown, .int 0, .ref m_isErased, .ref m_tape, .int 0, .int 0, .int 0, .int 0, .int (-1), .int 0, .ref m_five, .int 0, .int 0, .int 0, .int 0, .ref m_size0, .ref m_step, .ref m_stepA, .ref m_stepB, .ref m_stepC, .ref m_values, .ref m_heap, .ref m_isOne, .ref m_lawFrom, .ref m_lawTo, .ref m_hasLaw, .ref m_limits, .ref m_held, .ref m_hasKept, .ref m_kept, .ref m_keptAt, .int 0, .ref m_placeTrait, .ref m_placePerson, .ref m_placeMoment, .ref m_placeValue, .ref m_isFilled, .int 0, .ref m_uses, .ref m_heapsOne, .ref m_heapsOther]))]) hD hS hA [0] rfl
  refine va_calll (va_runV (As := [.int z1, .int z2, .int z3, .long ((z4.toInt64 <<< ((32 : Int32).toInt64 &&& 63)) ||| (z5.toInt64 &&& 4294967295)), .long ((z6.toInt64 <<< ((32 : Int32).toInt64 &&& 63)) ||| (z7.toInt64 &&& 4294967295)), .long ((z8.toInt64 <<< ((32 : Int32).toInt64 &&& 63)) ||| (z9.toInt64 &&& 4294967295)), .int z10]) (rest := [.long r_21]) ⟨hx, hb, hml, hown, hts⟩ (c_X9_shift l dC dI H.size m0 m_rowPerson m_rowStream m_rowMoment m_rowKnown m_rowValue m_isGone m_mergeTo m_mergeKnown m_isErased m_tape m_five m_size0 m_step m_stepA m_stepB m_stepC m_values m_heap m_isOne m_lawFrom m_lawTo m_hasLaw m_limits m_held m_hasKept m_kept m_keptAt m_placeTrait m_placePerson m_placeMoment m_placeValue m_isFilled m_uses m_heapsOne m_heapsOther z1 z2 z3 ((z4.toInt64 <<< ((32 : Int32).toInt64 &&& 63)) ||| (z5.toInt64 &&& 4294967295)) ((z6.toInt64 <<< ((32 : Int32).toInt64 &&& 63)) ||| (z7.toInt64 &&& 4294967295)) ((z8.toInt64 <<< ((32 : Int32).toInt64 &&& 63)) ||| (z9.toInt64 &&& 4294967295)) z10 ) (cwV 7 hts gL_law_X9_shift rfl rfl rfl (by decide +kernel) ⟨Nat.le_of_ble_eq_true rfl, Nat.le_of_ble_eq_true rfl⟩) ⟨fun a U g mk q => by obtain ⟨q0, q1, qP, qK, qD, qN⟩ := q; exact ⟨q0, q1, qP, va_K.moved (u := U) (U := U.calling g mk a) (Vm.Alike.refl U.vm) qK, qD, qN.same rfl⟩, va_recv hKc hPc (ci := 9) (q0 := 0) rfl rfl, fun U hU hW => ⟨rfl, by rw [hU], by rw [hU]; exact hPc, va_K.moved hW.alike hKc, hDc.weaken (fun _ _ _ _ => trivial), hN.warm hW⟩⟩ rfl rfl hl.1 rfl (lv_room (Nat.le_of_ble_eq_true rfl)) dL_law_1189 ⟨Nat.le_of_ble_eq_true rfl, Nat.le_of_ble_eq_true rfl⟩) hS (fun q _ h => hFc q h) hFc (fun r_44 u_45 t H1 locs ht hvm hw_46 hB hz1 hk1 hS => ?_)
  try dsimp only at hw_46
  have hP1 : va_P (dC, dI) vwCl [] H1 := fun k q h => by simp at h
  have hD1 : va_D (va_A [(m0, .inr (9, [.int 0, .int 0, .int 0, .ref m_rowPerson, .ref m_rowStream, .ref m_rowMoment, .ref m_rowKnown, .ref m_rowValue, .ref m_isGone, .ref m_mergeTo, .ref m_mergeKnown, .int 0, .ref m_isErased, .ref m_tape, .int 0, .int 0, .int 0, .int 0, .int (-1), .int 0, .ref m_five, .int 0, .int 0, .int 0, .int 0, .ref m_size0, .ref m_step, .ref m_stepA, .ref m_stepB, .ref m_stepC, .ref m_values, .ref m_heap, .ref m_isOne, .ref m_lawFrom, .ref m_lawTo, .ref m_hasLaw, .ref m_limits, .ref m_held, .ref m_hasKept, .ref m_kept, .ref m_keptAt, .int 0, .ref m_placeTrait, .ref m_placePerson, .ref m_placeMoment, .ref m_placeValue, .ref m_isFilled, .int 0, .ref m_uses, .ref m_heapsOne, .ref m_heapsOther]))] H.size) [] := ⟨fun i j p q h => by simp at h, fun k q h => by simp at h⟩
  have hK1 : va_K (dC, dI) vwCl [] s := hK.sub [] rfl
  obtain ⟨hP, hD⟩ := va_join (wr := []) (w1 := []) hP hD [0] [] rfl rfl (by decide) (by decide) hk1 hFc hP1 hD1
  have hK := (hK.sub (tys' := []) [] rfl).app hK1
  generalize H1 = H at hP hS ⊢
  have hP : va_P (dC, dI) vwCl [] H := hP
  have hD : va_D (fun q : Nat => s.heap.size ≤ q) [] := hD
  have hK : va_K (dC, dI) vwCl [] s := hK
  refine W.lcmp hx hb dL_law_1192 ?_
  refine lv_topi (fun k_47 ek_47 => ?_)
  have dk_47 : (k_47.toInt < 0 ↔ r_21.toInt < r_44.toInt) ∧ (k_47.toInt = 0 ↔ r_21.toInt = r_44.toInt) ∧ (0 < k_47.toInt ↔ r_44.toInt < r_21.toInt) := jI_cmp ek_47 rfl rfl
  refine lv_if_eq (tgt := 1234) hx hb dL_law_1193 (by decide) (fun c_48 => ?_) (fun c_48 => ?_)
  · exact law_tail hL C0 hS (lv_sub hl [0, 3] rfl)
  · have dc_48 : ¬ k_47.toInt = 0 := jI_ne c_48 rfl (by decide)
    exfalso; omega

set_option maxHeartbeats 4000000 in
set_option maxRecDepth 100000 in
theorem law_count {p : Program} {l : Launch} {e : Env} {s : State} {m : MethodId} {below : List Frame} {meth : Method} {c : Code} {dC : Nat → ClassId} {dI : Nat → Nat → Nat} {b L : Nat} {xs : Nat → Int32} (hL : L = 11) (C0 : lw_At p s m meth c b L xs) (hN : nw_ok s) (h0 : Nat) (hRows : Nat) (hMer : Nat) (hEra : Nat) (hTape : Nat) (hRea : Nat) (hTra : Nat) (hWor : Nat) (hPla : Nat) (hMod : Nat) (hHe1 : Nat) (hHe2 : Nat) (aB : Nat) (aO : Nat) (aQ : Nat) (aF : Nat) (aW : Nat) (aT : Nat) (aN : Nat) (aP : Nat) (aS : Nat) (aM : Nat) (aK : Nat) (aV : Nat) (m0 : Nat) (m_rowPerson : Nat) (m_rowStream : Nat) (m_rowMoment : Nat) (m_rowKnown : Nat) (m_rowValue : Nat) (m_isGone : Nat) (m_mergeTo : Nat) (m_mergeKnown : Nat) (m_isErased : Nat) (m_tape : Nat) (m_five : Nat) (m_size0 : Nat) (m_step : Nat) (m_stepA : Nat) (m_stepB : Nat) (m_stepC : Nat) (m_values : Nat) (m_heap : Nat) (m_isOne : Nat) (m_lawFrom : Nat) (m_lawTo : Nat) (m_hasLaw : Nat) (m_limits : Nat) (m_held : Nat) (m_hasKept : Nat) (m_kept : Nat) (m_keptAt : Nat) (m_placeTrait : Nat) (m_placePerson : Nat) (m_placeMoment : Nat) (m_placeValue : Nat) (m_isFilled : Nat) (m_uses : Nat) (m_heapsOne : Nat) (m_heapsOther : Nat) (k_isErased : ClassId)  (H : Heap) (locs : List Loc) (hK : va_K (dC, dI) vwCl [(k_isErased, .boolean)] s) (hP : va_P (dC, dI) vwCl [(h0, .inr (8, [.ref hRows, .ref hMer, .ref hEra, .ref hTape, .ref hRea, .ref hTra, .ref hWor, .ref hPla, .ref hMod, .ref hHe1, .ref hHe2, .int 0, .int 0, .int 0, .int 0, .int (-1), .int 0])), (hTape, .inr (5, [.ref aB, .int 0])), (hPla, .inr (1, [.ref aO, .ref aQ, .ref aF, .ref aW, .int 0])), (hMer, .inr (0, [.ref aT, .ref aN, .int 0])), (hRows, .inr (3, [.ref aP, .ref aS, .ref aM, .ref aK, .ref aV, .int 0, .int 0])), (m0, .inr (9, [.int 0, .int 0, .int 0, .ref m_rowPerson, .ref m_rowStream, .ref m_rowMoment, .ref m_rowKnown, .ref m_rowValue, .ref m_isGone, .ref m_mergeTo, .ref m_mergeKnown, .int 0, .ref m_isErased, .ref m_tape, .int 0, .int 0, .int 0, .int 0, .int (-1), .int 0, .ref m_five, .int 0, .int 0, .int 0, .int 0, .ref m_size0, .ref m_step, .ref m_stepA, .ref m_stepB, .ref m_stepC, .ref m_values, .ref m_heap, .ref m_isOne, .ref m_lawFrom, .ref m_lawTo, .ref m_hasLaw, .ref m_limits, .ref m_held, .ref m_hasKept, .ref m_kept, .ref m_keptAt, .int 0, .ref m_placeTrait, .ref m_placePerson, .ref m_placeMoment, .ref m_placeValue, .ref m_isFilled, .int 0, .ref m_uses, .ref m_heapsOne, .ref m_heapsOther])), (m_isErased, .inl (k_isErased, 20, .inl (fun _ => 0)))] H) (hD : va_D (fun q : Nat => s.heap.size ≤ q) [(h0, .inr (8, [.ref hRows, .ref hMer, .ref hEra, .ref hTape, .ref hRea, .ref hTra, .ref hWor, .ref hPla, .ref hMod, .ref hHe1, .ref hHe2, .int 0, .int 0, .int 0, .int 0, .int (-1), .int 0])), (hTape, .inr (5, [.ref aB, .int 0])), (hPla, .inr (1, [.ref aO, .ref aQ, .ref aF, .ref aW, .int 0])), (hMer, .inr (0, [.ref aT, .ref aN, .int 0])), (hRows, .inr (3, [.ref aP, .ref aS, .ref aM, .ref aK, .ref aV, .int 0, .int 0])), (m0, .inr (9, [.int 0, .int 0, .int 0, .ref m_rowPerson, .ref m_rowStream, .ref m_rowMoment, .ref m_rowKnown, .ref m_rowValue, .ref m_isGone, .ref m_mergeTo, .ref m_mergeKnown, .int 0, .ref m_isErased, .ref m_tape, .int 0, .int 0, .int 0, .int 0, .int (-1), .int 0, .ref m_five, .int 0, .int 0, .int 0, .int 0, .ref m_size0, .ref m_step, .ref m_stepA, .ref m_stepB, .ref m_stepC, .ref m_values, .ref m_heap, .ref m_isOne, .ref m_lawFrom, .ref m_lawTo, .ref m_hasLaw, .ref m_limits, .ref m_held, .ref m_hasKept, .ref m_kept, .ref m_keptAt, .int 0, .ref m_placeTrait, .ref m_placePerson, .ref m_placeMoment, .ref m_placeValue, .ref m_isFilled, .int 0, .ref m_uses, .ref m_heapsOne, .ref m_heapsOther])), (m_isErased, .inl (k_isErased, 20, .inl (fun _ => 0)))]) (hS : va_S (fun q : Nat => s.heap.size ≤ q) s.heap H locs) (ls : Array Slot) (hl : lv_has ls 4 [(3, .int 0), (2, .ref m0), (1, .ref h0), (0, .ref b)]) : W p l e room_1 s m #[Value.ref b] below meth c H locs 600000 7302250 (lw_Z below #[Value.ref b] s) (F0 m 1198 ls []) := by
  obtain ⟨hx, hb, hr, hml, hown, hts, hX, hbl, hlocks, hgv⟩ := id C0
  have hts := fun w h => hts w (wsL_law_in w h)
  have hown : s.vm.findClass RL = some m.cls := hown
  have hA : ∀ q : Nat, s.heap.size ≤ q → (fun q : Nat => s.heap.size ≤ q) q := fun _ h => h
  have hbA : ¬ (fun q : Nat => s.heap.size ≤ q) b := Nat.not_le.mpr hbl
  obtain ⟨z1, ez1⟩ : ∃ z : Int32, z = xs (1 : Int32).toNatClampNeg := ⟨_, rfl⟩
  refine lv_aload_n hx hb dL_law_1198 rfl (lv_at hl 2 rfl) ?_
  refine lv_aload_n hx hb dL_law_1199 rfl (lv_at hl 3 rfl) ?_
  refine lv_iload_n hx hb dL_law_1200 rfl (lv_at hl 0 rfl) ?_
  refine lv_iconst (v := 1) hx hb dL_law_1201 (by decide) ?_
  refine lv_iadd hx hb dL_law_1202 ?_
  refine lv_topi (fun x_1 ex_1 => ?_)
  obtain rfl : x_1 = 1 := ex_1.trans (by decide)
  refine va_sld hx hb hX hbl hbA hS (vp_in_iff.mpr ⟨by decide, by rw [hL]; decide⟩) dL_law_1203 ?_
  refine lv_topi (fun x_2 ex_2 => ?_)
  obtain rfl : z1 = x_2 := ez1.trans ex_2.symm
  have hPc := hP.sub (ws' := [(h0, .inr (8, [.ref hRows, .ref hMer, .ref hEra, .ref hTape, .ref hRea, .ref hTra, .ref hWor, .ref hPla, .ref hMod, .ref hHe1, .ref hHe2, .int 0, .int 0, .int 0, .int 0, .int (-1), .int 0])), (hTape, .inr (5, [.ref aB, .int 0])), (hPla, .inr (1, [.ref aO, .ref aQ, .ref aF, .ref aW, .int 0])), (hMer, .inr (0, [.ref aT, .ref aN, .int 0])), (hRows, .inr (3, [.ref aP, .ref aS, .ref aM, .ref aK, .ref aV, .int 0, .int 0]))]) [0, 1, 2, 3, 4] rfl
  have hDc := hD.sub (ws' := [(h0, .inr (8, [.ref hRows, .ref hMer, .ref hEra, .ref hTape, .ref hRea, .ref hTra, .ref hWor, .ref hPla, .ref hMod, .ref hHe1, .ref hHe2, .int 0, .int 0, .int 0, .int 0, .int (-1), .int 0])), (hTape, .inr (5, [.ref aB, .int 0])), (hPla, .inr (1, [.ref aO, .ref aQ, .ref aF, .ref aW, .int 0])), (hMer, .inr (0, [.ref aT, .ref aN, .int 0])), (hRows, .inr (3, [.ref aP, .ref aS, .ref aM, .ref aK, .ref aV, .int 0, .int 0]))]) [0, 1, 2, 3, 4] (by decide) rfl
  have hKc := hK.sub (tys' := []) [] rfl
  have hFc := va_free (wc := [(h0, .inr (8, [.ref hRows, .ref hMer, .ref hEra, .ref hTape, .ref hRea, .ref hTra, .ref hWor, .ref hPla, .ref hMod, .ref hHe1, .ref hHe2, .int 0, .int 0, .int 0, .int 0, .int (-1), .int 0])), (hTape, .inr (5, [.ref aB, .int 0])), (hPla, .inr (1, [.ref aO, .ref aQ, .ref aF, .ref aW, .int 0])), (hMer, .inr (0, [.ref aT, .ref aN, .int 0])), (hRows, .inr (3, [.ref aP, .ref aS, .ref aM, .ref aK, .ref aV, .int 0, .int 0]))]) hD hS hA [0, 1, 2, 3, 4] rfl
  refine va_calli (va_runV (As := [.int z1]) (rest := []) ⟨hx, hb, hml, hown, hts⟩ (c_X8_count l dC dI H.size h0 hRows hMer hEra hTape hRea hTra hWor hPla hMod hHe1 hHe2 aB aO aQ aF aW aT aN aP aS aM aK aV z1 ) (cwV 1 hts gL_law_X8_count rfl rfl rfl (by decide +kernel) ⟨Nat.le_of_ble_eq_true rfl, Nat.le_of_ble_eq_true rfl⟩) ⟨fun a U g mk q => by obtain ⟨q0, q1, qP, qK, qD, qN⟩ := q; exact ⟨q0, q1, qP, va_K.moved (u := U) (U := U.calling g mk a) (Vm.Alike.refl U.vm) qK, qD, qN.same rfl⟩, va_recv hKc hPc (ci := 8) (q0 := 0) rfl rfl, fun U hU hW => ⟨rfl, by rw [hU], by rw [hU]; exact hPc, va_K.moved hW.alike hKc, hDc.weaken (fun _ _ _ _ => trivial), hN.warm hW⟩⟩ rfl rfl hl.1 rfl (lv_room (Nat.le_of_ble_eq_true rfl)) dL_law_1204 ⟨Nat.le_of_ble_eq_true rfl, Nat.le_of_ble_eq_true rfl⟩) hS (fun q _ h => hFc q h) hFc (fun r_3 u_4 t H1 locs ht hvm hw_5 hB hz1 hk1 hS => ?_)
  try dsimp only at hw_5
  have hP1 : va_P (dC, dI) vwCl [] H1 := fun k q h => by simp at h
  have hD1 : va_D (va_A [(h0, .inr (8, [.ref hRows, .ref hMer, .ref hEra, .ref hTape, .ref hRea, .ref hTra, .ref hWor, .ref hPla, .ref hMod, .ref hHe1, .ref hHe2, .int 0, .int 0, .int 0, .int 0, .int (-1), .int 0])), (hTape, .inr (5, [.ref aB, .int 0])), (hPla, .inr (1, [.ref aO, .ref aQ, .ref aF, .ref aW, .int 0])), (hMer, .inr (0, [.ref aT, .ref aN, .int 0])), (hRows, .inr (3, [.ref aP, .ref aS, .ref aM, .ref aK, .ref aV, .int 0, .int 0]))] H.size) [] := ⟨fun i j p q h => by simp at h, fun k q h => by simp at h⟩
  have hK1 : va_K (dC, dI) vwCl [] s := hK.sub [] rfl
  obtain ⟨hP, hD⟩ := va_join (wr := [(m0, .inr (9, [.int 0, .int 0, .int 0, .ref m_rowPerson, .ref m_rowStream, .ref m_rowMoment, .ref m_rowKnown, .ref m_rowValue, .ref m_isGone, .ref m_mergeTo, .ref m_mergeKnown, .int 0, .ref m_isErased, .ref m_tape, .int 0, .int 0, .int 0, .int 0, .int (-1), .int 0, .ref m_five, .int 0, .int 0, .int 0, .int 0, .ref m_size0, .ref m_step, .ref m_stepA, .ref m_stepB, .ref m_stepC, .ref m_values, .ref m_heap, .ref m_isOne, .ref m_lawFrom, .ref m_lawTo, .ref m_hasLaw, .ref m_limits, .ref m_held, .ref m_hasKept, .ref m_kept, .ref m_keptAt, .int 0, .ref m_placeTrait, .ref m_placePerson, .ref m_placeMoment, .ref m_placeValue, .ref m_isFilled, .int 0, .ref m_uses, .ref m_heapsOne, .ref m_heapsOther])), (m_isErased, .inl (k_isErased, 20, .inl (fun _ => 0)))]) (w1 := []) hP hD [0, 1, 2, 3, 4] [5, 6] rfl rfl (by decide) (by decide) hk1 hFc hP1 hD1
  have hK := (hK.sub (tys' := [(k_isErased, .boolean)]) [0] rfl).app hK1
  generalize H1 = H at hP hS ⊢
  have hP : va_P (dC, dI) vwCl [(m0, .inr (9, [.int 0, .int 0, .int 0, .ref m_rowPerson, .ref m_rowStream, .ref m_rowMoment, .ref m_rowKnown, .ref m_rowValue, .ref m_isGone, .ref m_mergeTo, .ref m_mergeKnown, .int 0, .ref m_isErased, .ref m_tape, .int 0, .int 0, .int 0, .int 0, .int (-1), .int 0, .ref m_five, .int 0, .int 0, .int 0, .int 0, .ref m_size0, .ref m_step, .ref m_stepA, .ref m_stepB, .ref m_stepC, .ref m_values, .ref m_heap, .ref m_isOne, .ref m_lawFrom, .ref m_lawTo, .ref m_hasLaw, .ref m_limits, .ref m_held, .ref m_hasKept, .ref m_kept, .ref m_keptAt, .int 0, .ref m_placeTrait, .ref m_placePerson, .ref m_placeMoment, .ref m_placeValue, .ref m_isFilled, .int 0, .ref m_uses, .ref m_heapsOne, .ref m_heapsOther])), (m_isErased, .inl (k_isErased, 20, .inl (fun _ => 0)))] H := hP
  have hD : va_D (fun q : Nat => s.heap.size ≤ q) [(m0, .inr (9, [.int 0, .int 0, .int 0, .ref m_rowPerson, .ref m_rowStream, .ref m_rowMoment, .ref m_rowKnown, .ref m_rowValue, .ref m_isGone, .ref m_mergeTo, .ref m_mergeKnown, .int 0, .ref m_isErased, .ref m_tape, .int 0, .int 0, .int 0, .int 0, .int (-1), .int 0, .ref m_five, .int 0, .int 0, .int 0, .int 0, .ref m_size0, .ref m_step, .ref m_stepA, .ref m_stepB, .ref m_stepC, .ref m_values, .ref m_heap, .ref m_isOne, .ref m_lawFrom, .ref m_lawTo, .ref m_hasLaw, .ref m_limits, .ref m_held, .ref m_hasKept, .ref m_kept, .ref m_keptAt, .int 0, .ref m_placeTrait, .ref m_placePerson, .ref m_placeMoment, .ref m_placeValue, .ref m_isFilled, .int 0, .ref m_uses, .ref m_heapsOne, .ref m_heapsOther])), (m_isErased, .inl (k_isErased, 20, .inl (fun _ => 0)))] := hD
  have hK : va_K (dC, dI) vwCl [(k_isErased, .boolean)] s := hK
  refine lv_aload_n hx hb dL_law_1207 rfl (lv_at hl 1 rfl) ?_
  refine lv_aload_n hx hb dL_law_1208 rfl (lv_at hl 3 rfl) ?_
  refine lv_iload_n hx hb dL_law_1209 rfl (lv_at hl 0 rfl) ?_
  refine lv_iconst (v := 1) hx hb dL_law_1210 (by decide) ?_
  refine lv_iadd hx hb dL_law_1211 ?_
  refine lv_topi (fun x_6 ex_6 => ?_)
  obtain rfl : x_6 = 1 := ex_6.trans (by decide)
  refine va_sld hx hb hX hbl hbA hS (vp_in_iff.mpr ⟨by decide, by rw [hL]; decide⟩) dL_law_1212 ?_
  refine lv_topi (fun x_7 ex_7 => ?_)
  obtain rfl : z1 = x_7 := ez1.trans ex_7.symm
  have hPc := hP.sub (ws' := [(m0, .inr (9, [.int 0, .int 0, .int 0, .ref m_rowPerson, .ref m_rowStream, .ref m_rowMoment, .ref m_rowKnown, .ref m_rowValue, .ref m_isGone, .ref m_mergeTo, .ref m_mergeKnown, .int 0, .ref m_isErased, .ref m_tape, .int 0, .int 0, .int 0, .int 0, .int (-1), .int 0, .ref m_five, .int 0, .int 0, .int 0, .int 0, .ref m_size0, .ref m_step, .ref m_stepA, .ref m_stepB, .ref m_stepC, .ref m_values, .ref m_heap, .ref m_isOne, .ref m_lawFrom, .ref m_lawTo, .ref m_hasLaw, .ref m_limits, .ref m_held, .ref m_hasKept, .ref m_kept, .ref m_keptAt, .int 0, .ref m_placeTrait, .ref m_placePerson, .ref m_placeMoment, .ref m_placeValue, .ref m_isFilled, .int 0, .ref m_uses, .ref m_heapsOne, .ref m_heapsOther])), (m_isErased, .inl (k_isErased, 20, .inl (fun _ => 0)))]) [0, 1] rfl
  have hDc := hD.sub (ws' := [(m0, .inr (9, [.int 0, .int 0, .int 0, .ref m_rowPerson, .ref m_rowStream, .ref m_rowMoment, .ref m_rowKnown, .ref m_rowValue, .ref m_isGone, .ref m_mergeTo, .ref m_mergeKnown, .int 0, .ref m_isErased, .ref m_tape, .int 0, .int 0, .int 0, .int 0, .int (-1), .int 0, .ref m_five, .int 0, .int 0, .int 0, .int 0, .ref m_size0, .ref m_step, .ref m_stepA, .ref m_stepB, .ref m_stepC, .ref m_values, .ref m_heap, .ref m_isOne, .ref m_lawFrom, .ref m_lawTo, .ref m_hasLaw, .ref m_limits, .ref m_held, .ref m_hasKept, .ref m_kept, .ref m_keptAt, .int 0, .ref m_placeTrait, .ref m_placePerson, .ref m_placeMoment, .ref m_placeValue, .ref m_isFilled, .int 0, .ref m_uses, .ref m_heapsOne, .ref m_heapsOther])), (m_isErased, .inl (k_isErased, 20, .inl (fun _ => 0)))]) [0, 1] (by decide) rfl
  have hKc := hK.sub (tys' := [(k_isErased, .boolean)]) [0] rfl
  have hFc := va_free (wc := [(m0, .inr (9, [.int 0, .int 0, .int 0, .ref m_rowPerson, .ref m_rowStream, .ref m_rowMoment, .ref m_rowKnown, .ref m_rowValue, .ref m_isGone, .ref m_mergeTo, .ref m_mergeKnown, .int 0, .ref m_isErased, .ref m_tape, .int 0, .int 0, .int 0, .int 0, .int (-1), .int 0, .ref m_five, .int 0, .int 0, .int 0, .int 0, .ref m_size0, .ref m_step, .ref m_stepA, .ref m_stepB, .ref m_stepC, .ref m_values, .ref m_heap, .ref m_isOne, .ref m_lawFrom, .ref m_lawTo, .ref m_hasLaw, .ref m_limits, .ref m_held, .ref m_hasKept, .ref m_kept, .ref m_keptAt, .int 0, .ref m_placeTrait, .ref m_placePerson, .ref m_placeMoment, .ref m_placeValue, .ref m_isFilled, .int 0, .ref m_uses, .ref m_heapsOne, .ref m_heapsOther])), (m_isErased, .inl (k_isErased, 20, .inl (fun _ => 0)))]) hD hS hA [0, 1] rfl
  refine va_calli (va_runV (As := [.int z1]) (rest := [.int r_3]) ⟨hx, hb, hml, hown, hts⟩ (c_X9_count l dC dI H.size m0 m_rowPerson m_rowStream m_rowMoment m_rowKnown m_rowValue m_isGone m_mergeTo m_mergeKnown m_isErased m_tape m_five m_size0 m_step m_stepA m_stepB m_stepC m_values m_heap m_isOne m_lawFrom m_lawTo m_hasLaw m_limits m_held m_hasKept m_kept m_keptAt m_placeTrait m_placePerson m_placeMoment m_placeValue m_isFilled m_uses m_heapsOne m_heapsOther k_isErased z1 ) (cwV 1 hts gL_law_X9_count rfl rfl rfl (by decide +kernel) ⟨Nat.le_of_ble_eq_true rfl, Nat.le_of_ble_eq_true rfl⟩) ⟨fun a U g mk q => by obtain ⟨q0, q1, qP, qK, qD, qN⟩ := q; exact ⟨q0, q1, qP, va_K.moved (u := U) (U := U.calling g mk a) (Vm.Alike.refl U.vm) qK, qD, qN.same rfl⟩, va_recv hKc hPc (ci := 9) (q0 := 0) rfl rfl, fun U hU hW => ⟨rfl, by rw [hU], by rw [hU]; exact hPc, va_K.moved hW.alike hKc, hDc.weaken (fun _ _ _ _ => trivial), hN.warm hW⟩⟩ rfl rfl hl.1 rfl (lv_room (Nat.le_of_ble_eq_true rfl)) dL_law_1213 ⟨Nat.le_of_ble_eq_true rfl, Nat.le_of_ble_eq_true rfl⟩) hS (fun q _ h => hFc q h) hFc (fun r_8 u_9 t H1 locs ht hvm hw_10 hB hz1 hk1 hS => ?_)
  try dsimp only at hw_10
  have hP1 : va_P (dC, dI) vwCl [] H1 := fun k q h => by simp at h
  have hD1 : va_D (va_A [(m0, .inr (9, [.int 0, .int 0, .int 0, .ref m_rowPerson, .ref m_rowStream, .ref m_rowMoment, .ref m_rowKnown, .ref m_rowValue, .ref m_isGone, .ref m_mergeTo, .ref m_mergeKnown, .int 0, .ref m_isErased, .ref m_tape, .int 0, .int 0, .int 0, .int 0, .int (-1), .int 0, .ref m_five, .int 0, .int 0, .int 0, .int 0, .ref m_size0, .ref m_step, .ref m_stepA, .ref m_stepB, .ref m_stepC, .ref m_values, .ref m_heap, .ref m_isOne, .ref m_lawFrom, .ref m_lawTo, .ref m_hasLaw, .ref m_limits, .ref m_held, .ref m_hasKept, .ref m_kept, .ref m_keptAt, .int 0, .ref m_placeTrait, .ref m_placePerson, .ref m_placeMoment, .ref m_placeValue, .ref m_isFilled, .int 0, .ref m_uses, .ref m_heapsOne, .ref m_heapsOther])), (m_isErased, .inl (k_isErased, 20, .inl (fun _ => 0)))] H.size) [] := ⟨fun i j p q h => by simp at h, fun k q h => by simp at h⟩
  have hK1 : va_K (dC, dI) vwCl [] s := hK.sub [] rfl
  obtain ⟨hP, hD⟩ := va_join (wr := []) (w1 := []) hP hD [0, 1] [] rfl rfl (by decide) (by decide) hk1 hFc hP1 hD1
  have hK := (hK.sub (tys' := [(k_isErased, .boolean)]) [0] rfl).app hK1
  generalize H1 = H at hP hS ⊢
  have hP : va_P (dC, dI) vwCl [] H := hP
  have hD : va_D (fun q : Nat => s.heap.size ≤ q) [] := hD
  have hK : va_K (dC, dI) vwCl [(k_isErased, .boolean)] s := hK
  refine lv_icmp_eq (tgt := 1234) hx hb dL_law_1216 (by decide) (fun c_11 => ?_) (fun c_11 => ?_)
  · exact law_tail hL C0 hS (lv_sub hl [0, 3] rfl)
  · have dc_11 : ¬ r_3.toInt = r_8.toInt := jI_ne c_11 rfl rfl
    exfalso; omega

set_option maxHeartbeats 4000000 in
set_option maxRecDepth 100000 in
theorem law_status {p : Program} {l : Launch} {e : Env} {s : State} {m : MethodId} {below : List Frame} {meth : Method} {c : Code} {dC : Nat → ClassId} {dI : Nat → Nat → Nat} {b L : Nat} {xs : Nat → Int32} (hL : L = 11) (C0 : lw_At p s m meth c b L xs) (hN : nw_ok s) (h0 : Nat) (hRows : Nat) (hMer : Nat) (hEra : Nat) (hTape : Nat) (hRea : Nat) (hTra : Nat) (hWor : Nat) (hPla : Nat) (hMod : Nat) (hHe1 : Nat) (hHe2 : Nat) (m0 : Nat) (m_rowPerson : Nat) (m_rowStream : Nat) (m_rowMoment : Nat) (m_rowKnown : Nat) (m_rowValue : Nat) (m_isGone : Nat) (m_mergeTo : Nat) (m_mergeKnown : Nat) (m_isErased : Nat) (m_tape : Nat) (m_five : Nat) (m_size0 : Nat) (m_step : Nat) (m_stepA : Nat) (m_stepB : Nat) (m_stepC : Nat) (m_values : Nat) (m_heap : Nat) (m_isOne : Nat) (m_lawFrom : Nat) (m_lawTo : Nat) (m_hasLaw : Nat) (m_limits : Nat) (m_held : Nat) (m_hasKept : Nat) (m_kept : Nat) (m_keptAt : Nat) (m_placeTrait : Nat) (m_placePerson : Nat) (m_placeMoment : Nat) (m_placeValue : Nat) (m_isFilled : Nat) (m_uses : Nat) (m_heapsOne : Nat) (m_heapsOther : Nat)  (H : Heap) (locs : List Loc) (hK : va_K (dC, dI) vwCl [] s) (hP : va_P (dC, dI) vwCl [(h0, .inr (8, [.ref hRows, .ref hMer, .ref hEra, .ref hTape, .ref hRea, .ref hTra, .ref hWor, .ref hPla, .ref hMod, .ref hHe1, .ref hHe2, .int 0, .int 0, .int 0, .int 0, .int (-1), .int 0])), (m0, .inr (9, [.int 0, .int 0, .int 0, .ref m_rowPerson, .ref m_rowStream, .ref m_rowMoment, .ref m_rowKnown, .ref m_rowValue, .ref m_isGone, .ref m_mergeTo, .ref m_mergeKnown, .int 0, .ref m_isErased, .ref m_tape, .int 0, .int 0, .int 0, .int 0, .int (-1), .int 0, .ref m_five, .int 0, .int 0, .int 0, .int 0, .ref m_size0, .ref m_step, .ref m_stepA, .ref m_stepB, .ref m_stepC, .ref m_values, .ref m_heap, .ref m_isOne, .ref m_lawFrom, .ref m_lawTo, .ref m_hasLaw, .ref m_limits, .ref m_held, .ref m_hasKept, .ref m_kept, .ref m_keptAt, .int 0, .ref m_placeTrait, .ref m_placePerson, .ref m_placeMoment, .ref m_placeValue, .ref m_isFilled, .int 0, .ref m_uses, .ref m_heapsOne, .ref m_heapsOther]))] H) (hD : va_D (fun q : Nat => s.heap.size ≤ q) [(h0, .inr (8, [.ref hRows, .ref hMer, .ref hEra, .ref hTape, .ref hRea, .ref hTra, .ref hWor, .ref hPla, .ref hMod, .ref hHe1, .ref hHe2, .int 0, .int 0, .int 0, .int 0, .int (-1), .int 0])), (m0, .inr (9, [.int 0, .int 0, .int 0, .ref m_rowPerson, .ref m_rowStream, .ref m_rowMoment, .ref m_rowKnown, .ref m_rowValue, .ref m_isGone, .ref m_mergeTo, .ref m_mergeKnown, .int 0, .ref m_isErased, .ref m_tape, .int 0, .int 0, .int 0, .int 0, .int (-1), .int 0, .ref m_five, .int 0, .int 0, .int 0, .int 0, .ref m_size0, .ref m_step, .ref m_stepA, .ref m_stepB, .ref m_stepC, .ref m_values, .ref m_heap, .ref m_isOne, .ref m_lawFrom, .ref m_lawTo, .ref m_hasLaw, .ref m_limits, .ref m_held, .ref m_hasKept, .ref m_kept, .ref m_keptAt, .int 0, .ref m_placeTrait, .ref m_placePerson, .ref m_placeMoment, .ref m_placeValue, .ref m_isFilled, .int 0, .ref m_uses, .ref m_heapsOne, .ref m_heapsOther]))]) (hS : va_S (fun q : Nat => s.heap.size ≤ q) s.heap H locs) (ls : Array Slot) (hl : lv_has ls 4 [(3, .int 0), (2, .ref m0), (1, .ref h0), (0, .ref b)]) : W p l e room_1 s m #[Value.ref b] below meth c H locs 600000 7302250 (lw_Z below #[Value.ref b] s) (F0 m 1221 ls []) := by
  obtain ⟨hx, hb, hr, hml, hown, hts, hX, hbl, hlocks, hgv⟩ := id C0
  have hts := fun w h => hts w (wsL_law_in w h)
  have hown : s.vm.findClass RL = some m.cls := hown
  have hA : ∀ q : Nat, s.heap.size ≤ q → (fun q : Nat => s.heap.size ≤ q) q := fun _ h => h
  have hbA : ¬ (fun q : Nat => s.heap.size ≤ q) b := Nat.not_le.mpr hbl
  refine lv_aload_n hx hb dL_law_1221 rfl (lv_at hl 2 rfl) ?_
  have hPc := hP.sub (ws' := [(h0, .inr (8, [.ref hRows, .ref hMer, .ref hEra, .ref hTape, .ref hRea, .ref hTra, .ref hWor, .ref hPla, .ref hMod, .ref hHe1, .ref hHe2, .int 0, .int 0, .int 0, .int 0, .int (-1), .int 0]))]) [0] rfl
  have hDc := hD.sub (ws' := [(h0, .inr (8, [.ref hRows, .ref hMer, .ref hEra, .ref hTape, .ref hRea, .ref hTra, .ref hWor, .ref hPla, .ref hMod, .ref hHe1, .ref hHe2, .int 0, .int 0, .int 0, .int 0, .int (-1), .int 0]))]) [0] (by decide) rfl
  have hKc := hK.sub (tys' := []) [] rfl
  have hFc := va_free (wc := [(h0, .inr (8, [.ref hRows, .ref hMer, .ref hEra, .ref hTape, .ref hRea, .ref hTra, .ref hWor, .ref hPla, .ref hMod, .ref hHe1, .ref hHe2, .int 0, .int 0, .int 0, .int 0, .int (-1), .int 0]))]) hD hS hA [0] rfl
  refine va_calli (va_runV (As := []) (rest := []) ⟨hx, hb, hml, hown, hts⟩ (c_X8_status l dC dI H.size h0 hRows hMer hEra hTape hRea hTra hWor hPla hMod hHe1 hHe2 ) (cwV 0 hts gL_law_X8_status rfl rfl rfl (by decide +kernel) ⟨Nat.le_of_ble_eq_true rfl, Nat.le_of_ble_eq_true rfl⟩) ⟨fun a U g mk q => by obtain ⟨q0, q1, qP, qK, qD, qN⟩ := q; exact ⟨q0, q1, qP, va_K.moved (u := U) (U := U.calling g mk a) (Vm.Alike.refl U.vm) qK, qD, qN.same rfl⟩, va_recv hKc hPc (ci := 8) (q0 := 0) rfl rfl, fun U hU hW => ⟨rfl, by rw [hU], by rw [hU]; exact hPc, va_K.moved hW.alike hKc, hDc.weaken (fun _ _ _ _ => trivial), hN.warm hW⟩⟩ rfl rfl hl.1 rfl (lv_room (Nat.le_of_ble_eq_true rfl)) dL_law_1222 ⟨Nat.le_of_ble_eq_true rfl, Nat.le_of_ble_eq_true rfl⟩) hS (fun q _ h => hFc q h) hFc (fun r_1 u_2 t H1 locs ht hvm hw_3 hB hz1 hk1 hS => ?_)
  try dsimp only at hw_3
  have hP1 : va_P (dC, dI) vwCl [] H1 := fun k q h => by simp at h
  have hD1 : va_D (va_A [(h0, .inr (8, [.ref hRows, .ref hMer, .ref hEra, .ref hTape, .ref hRea, .ref hTra, .ref hWor, .ref hPla, .ref hMod, .ref hHe1, .ref hHe2, .int 0, .int 0, .int 0, .int 0, .int (-1), .int 0]))] H.size) [] := ⟨fun i j p q h => by simp at h, fun k q h => by simp at h⟩
  have hK1 : va_K (dC, dI) vwCl [] s := hK.sub [] rfl
  obtain ⟨hP, hD⟩ := va_join (wr := [(m0, .inr (9, [.int 0, .int 0, .int 0, .ref m_rowPerson, .ref m_rowStream, .ref m_rowMoment, .ref m_rowKnown, .ref m_rowValue, .ref m_isGone, .ref m_mergeTo, .ref m_mergeKnown, .int 0, .ref m_isErased, .ref m_tape, .int 0, .int 0, .int 0, .int 0, .int (-1), .int 0, .ref m_five, .int 0, .int 0, .int 0, .int 0, .ref m_size0, .ref m_step, .ref m_stepA, .ref m_stepB, .ref m_stepC, .ref m_values, .ref m_heap, .ref m_isOne, .ref m_lawFrom, .ref m_lawTo, .ref m_hasLaw, .ref m_limits, .ref m_held, .ref m_hasKept, .ref m_kept, .ref m_keptAt, .int 0, .ref m_placeTrait, .ref m_placePerson, .ref m_placeMoment, .ref m_placeValue, .ref m_isFilled, .int 0, .ref m_uses, .ref m_heapsOne, .ref m_heapsOther]))]) (w1 := []) hP hD [0] [1] rfl rfl (by decide) (by decide) hk1 hFc hP1 hD1
  have hK := (hK.sub (tys' := []) [] rfl).app hK1
  generalize H1 = H at hP hS ⊢
  have hP : va_P (dC, dI) vwCl [(m0, .inr (9, [.int 0, .int 0, .int 0, .ref m_rowPerson, .ref m_rowStream, .ref m_rowMoment, .ref m_rowKnown, .ref m_rowValue, .ref m_isGone, .ref m_mergeTo, .ref m_mergeKnown, .int 0, .ref m_isErased, .ref m_tape, .int 0, .int 0, .int 0, .int 0, .int (-1), .int 0, .ref m_five, .int 0, .int 0, .int 0, .int 0, .ref m_size0, .ref m_step, .ref m_stepA, .ref m_stepB, .ref m_stepC, .ref m_values, .ref m_heap, .ref m_isOne, .ref m_lawFrom, .ref m_lawTo, .ref m_hasLaw, .ref m_limits, .ref m_held, .ref m_hasKept, .ref m_kept, .ref m_keptAt, .int 0, .ref m_placeTrait, .ref m_placePerson, .ref m_placeMoment, .ref m_placeValue, .ref m_isFilled, .int 0, .ref m_uses, .ref m_heapsOne, .ref m_heapsOther]))] H := hP
  have hD : va_D (fun q : Nat => s.heap.size ≤ q) [(m0, .inr (9, [.int 0, .int 0, .int 0, .ref m_rowPerson, .ref m_rowStream, .ref m_rowMoment, .ref m_rowKnown, .ref m_rowValue, .ref m_isGone, .ref m_mergeTo, .ref m_mergeKnown, .int 0, .ref m_isErased, .ref m_tape, .int 0, .int 0, .int 0, .int 0, .int (-1), .int 0, .ref m_five, .int 0, .int 0, .int 0, .int 0, .ref m_size0, .ref m_step, .ref m_stepA, .ref m_stepB, .ref m_stepC, .ref m_values, .ref m_heap, .ref m_isOne, .ref m_lawFrom, .ref m_lawTo, .ref m_hasLaw, .ref m_limits, .ref m_held, .ref m_hasKept, .ref m_kept, .ref m_keptAt, .int 0, .ref m_placeTrait, .ref m_placePerson, .ref m_placeMoment, .ref m_placeValue, .ref m_isFilled, .int 0, .ref m_uses, .ref m_heapsOne, .ref m_heapsOther]))] := hD
  have hK : va_K (dC, dI) vwCl [] s := hK
  obtain rfl : 0 = r_1 := hw_3.symm
  refine lv_aload_n hx hb dL_law_1225 rfl (lv_at hl 1 rfl) ?_
  have hPc := hP.sub (ws' := [(m0, .inr (9, [.int 0, .int 0, .int 0, .ref m_rowPerson, .ref m_rowStream, .ref m_rowMoment, .ref m_rowKnown, .ref m_rowValue, .ref m_isGone, .ref m_mergeTo, .ref m_mergeKnown, .int 0, .ref m_isErased, .ref m_tape, .int 0, .int 0, .int 0, .int 0, .int (-1), .int 0, .ref m_five, .int 0, .int 0, .int 0, .int 0, .ref m_size0, .ref m_step, .ref m_stepA, .ref m_stepB, .ref m_stepC, .ref m_values, .ref m_heap, .ref m_isOne, .ref m_lawFrom, .ref m_lawTo, .ref m_hasLaw, .ref m_limits, .ref m_held, .ref m_hasKept, .ref m_kept, .ref m_keptAt, .int 0, .ref m_placeTrait, .ref m_placePerson, .ref m_placeMoment, .ref m_placeValue, .ref m_isFilled, .int 0, .ref m_uses, .ref m_heapsOne, .ref m_heapsOther]))]) [0] rfl
  have hDc := hD.sub (ws' := [(m0, .inr (9, [.int 0, .int 0, .int 0, .ref m_rowPerson, .ref m_rowStream, .ref m_rowMoment, .ref m_rowKnown, .ref m_rowValue, .ref m_isGone, .ref m_mergeTo, .ref m_mergeKnown, .int 0, .ref m_isErased, .ref m_tape, .int 0, .int 0, .int 0, .int 0, .int (-1), .int 0, .ref m_five, .int 0, .int 0, .int 0, .int 0, .ref m_size0, .ref m_step, .ref m_stepA, .ref m_stepB, .ref m_stepC, .ref m_values, .ref m_heap, .ref m_isOne, .ref m_lawFrom, .ref m_lawTo, .ref m_hasLaw, .ref m_limits, .ref m_held, .ref m_hasKept, .ref m_kept, .ref m_keptAt, .int 0, .ref m_placeTrait, .ref m_placePerson, .ref m_placeMoment, .ref m_placeValue, .ref m_isFilled, .int 0, .ref m_uses, .ref m_heapsOne, .ref m_heapsOther]))]) [0] (by decide) rfl
  have hKc := hK.sub (tys' := []) [] rfl
  have hFc := va_free (wc := [(m0, .inr (9, [.int 0, .int 0, .int 0, .ref m_rowPerson, .ref m_rowStream, .ref m_rowMoment, .ref m_rowKnown, .ref m_rowValue, .ref m_isGone, .ref m_mergeTo, .ref m_mergeKnown, .int 0, .ref m_isErased, .ref m_tape, .int 0, .int 0, .int 0, .int 0, .int (-1), .int 0, .ref m_five, .int 0, .int 0, .int 0, .int 0, .ref m_size0, .ref m_step, .ref m_stepA, .ref m_stepB, .ref m_stepC, .ref m_values, .ref m_heap, .ref m_isOne, .ref m_lawFrom, .ref m_lawTo, .ref m_hasLaw, .ref m_limits, .ref m_held, .ref m_hasKept, .ref m_kept, .ref m_keptAt, .int 0, .ref m_placeTrait, .ref m_placePerson, .ref m_placeMoment, .ref m_placeValue, .ref m_isFilled, .int 0, .ref m_uses, .ref m_heapsOne, .ref m_heapsOther]))]) hD hS hA [0] rfl
  refine va_calli (va_runV (As := []) (rest := [.int 0]) ⟨hx, hb, hml, hown, hts⟩ (c_X9_status l dC dI H.size m0 m_rowPerson m_rowStream m_rowMoment m_rowKnown m_rowValue m_isGone m_mergeTo m_mergeKnown m_isErased m_tape m_five m_size0 m_step m_stepA m_stepB m_stepC m_values m_heap m_isOne m_lawFrom m_lawTo m_hasLaw m_limits m_held m_hasKept m_kept m_keptAt m_placeTrait m_placePerson m_placeMoment m_placeValue m_isFilled m_uses m_heapsOne m_heapsOther ) (cwV 0 hts gL_law_X9_status rfl rfl rfl (by decide +kernel) ⟨Nat.le_of_ble_eq_true rfl, Nat.le_of_ble_eq_true rfl⟩) ⟨fun a U g mk q => by obtain ⟨q0, q1, qP, qK, qD, qN⟩ := q; exact ⟨q0, q1, qP, va_K.moved (u := U) (U := U.calling g mk a) (Vm.Alike.refl U.vm) qK, qD, qN.same rfl⟩, va_recv hKc hPc (ci := 9) (q0 := 0) rfl rfl, fun U hU hW => ⟨rfl, by rw [hU], by rw [hU]; exact hPc, va_K.moved hW.alike hKc, hDc.weaken (fun _ _ _ _ => trivial), hN.warm hW⟩⟩ rfl rfl hl.1 rfl (lv_room (Nat.le_of_ble_eq_true rfl)) dL_law_1226 ⟨Nat.le_of_ble_eq_true rfl, Nat.le_of_ble_eq_true rfl⟩) hS (fun q _ h => hFc q h) hFc (fun r_4 u_5 t H1 locs ht hvm hw_6 hB hz1 hk1 hS => ?_)
  try dsimp only at hw_6
  have hP1 : va_P (dC, dI) vwCl [] H1 := fun k q h => by simp at h
  have hD1 : va_D (va_A [(m0, .inr (9, [.int 0, .int 0, .int 0, .ref m_rowPerson, .ref m_rowStream, .ref m_rowMoment, .ref m_rowKnown, .ref m_rowValue, .ref m_isGone, .ref m_mergeTo, .ref m_mergeKnown, .int 0, .ref m_isErased, .ref m_tape, .int 0, .int 0, .int 0, .int 0, .int (-1), .int 0, .ref m_five, .int 0, .int 0, .int 0, .int 0, .ref m_size0, .ref m_step, .ref m_stepA, .ref m_stepB, .ref m_stepC, .ref m_values, .ref m_heap, .ref m_isOne, .ref m_lawFrom, .ref m_lawTo, .ref m_hasLaw, .ref m_limits, .ref m_held, .ref m_hasKept, .ref m_kept, .ref m_keptAt, .int 0, .ref m_placeTrait, .ref m_placePerson, .ref m_placeMoment, .ref m_placeValue, .ref m_isFilled, .int 0, .ref m_uses, .ref m_heapsOne, .ref m_heapsOther]))] H.size) [] := ⟨fun i j p q h => by simp at h, fun k q h => by simp at h⟩
  have hK1 : va_K (dC, dI) vwCl [] s := hK.sub [] rfl
  obtain ⟨hP, hD⟩ := va_join (wr := []) (w1 := []) hP hD [0] [] rfl rfl (by decide) (by decide) hk1 hFc hP1 hD1
  have hK := (hK.sub (tys' := []) [] rfl).app hK1
  generalize H1 = H at hP hS ⊢
  have hP : va_P (dC, dI) vwCl [] H := hP
  have hD : va_D (fun q : Nat => s.heap.size ≤ q) [] := hD
  have hK : va_K (dC, dI) vwCl [] s := hK
  obtain rfl : 0 = r_4 := hw_6.symm
  refine lv_icmp_eq (tgt := 1234) hx hb dL_law_1229 (by decide) (fun c_7 => ?_) (fun c_7 => ?_)
  · exact law_tail hL C0 hS (lv_sub hl [0, 3] rfl)
  · exact absurd rfl c_7
