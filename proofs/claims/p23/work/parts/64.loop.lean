set_option maxHeartbeats 8000000 in
set_option maxRecDepth 100000 in
theorem law_loop {p : Program} {l : Launch} {e : Env} {s : State} {m : MethodId} {below : List Frame} {meth : Method} {c : Code} {dC : Nat → ClassId} {dI : Nat → Nat → Nat} {b Ln : Nat} {xs : Nat → Int32} {cA : Nat → ClassId} {ax am adK adV : Nat → Nat} {A : Nat → Prop} (C0 : lw_At p s m meth c b Ln xs) (hN : nw_ok s) (hSt : st_ok adK adV A s) (hK : va_K (dC, dI) vwCl (tyL cA) s) (hA : ∀ q : Nat, s.heap.size ≤ q → A q) (hA2 : ∀ q : Nat, A q → s.heap.size ≤ q) (hbA : ¬ A b) (hLn : Ln ≤ 5632) : ∀ (n : Nat) (i : Int32) (j : Nat) (H : Heap) (locs : List Loc) (ls : Array Slot) {xEr : Int32} {xRe : Int32} {xRz : Int32} {xRn : Int32} {gP : Nat → Int32} {gS : Nat → Int32} {gM : Nat → Int32} {gK : Nat → Int32} {gV : Nat → Int32} {gE : Nat → Int32} {gB : Nat → Int32} {xSz : Int32} {xPl : Int32} {xBe : Int32} {xRt : Int32} {xRf : Int32} {xRd : Int32} {xLk : Int32} {gSt : Nat → Option Nat} {gTr : Nat → Option Nat} {xSr : Int32} {xWm : Int32} {xTp : Int32} {gO : Nat → Int32} {gW : Nat → Int32} {gKk : Nat → Int64} {gVs : Nat → Int64} {xPz : Int32} {gPO : Nat → Int32} {gPM : Nat → Int32} {gPF : Nat → Int32} {gPV : Nat → Int64} {gMo : Nat → Int32} {gH1 : Nat → Int32} {gH2 : Nat → Int32} {v_status : Int32} {v_now : Int32} {v_told : Int32} {v_merges : Int32} {v_taped : Int32} {v_size : Int32} {v_from : Int32} {v_to : Int32} {v_fault : Int32} {v_readFault : Int32} {v_traits : Int32} {v_length : Int32} {v_open : Int32} {v_leaks : Int32} {v_places : Int32} {v_models : Int32} {f_rowPerson : Nat → Int32} {f_rowStream : Nat → Int32} {f_rowMoment : Nat → Int32} {f_rowKnown : Nat → Int32} {f_rowValue : Nat → Int32} {f_isGone : Nat → Int32} {f_mergeTo : Nat → Int32} {f_mergeKnown : Nat → Int32} {f_isErased : Nat → Int32} {f_tape : Nat → Int32} {f_five : Nat → Int32} {f_size0 : Nat → Int32} {f_step : Nat → Int32} {f_stepA : Nat → Int32} {f_stepB : Nat → Int32} {f_stepC : Nat → Int32} {f_values : Nat → Int64} {f_heap : Nat → Int64} {f_isOne : Nat → Int32} {f_lawFrom : Nat → Int64} {f_lawTo : Nat → Int64} {f_hasLaw : Nat → Int32} {f_limits : Nat → Int32} {f_held : Nat → Int32} {f_hasKept : Nat → Int32} {f_kept : Nat → Int64} {f_keptAt : Nat → Int32} {f_placeTrait : Nat → Int32} {f_placePerson : Nat → Int32} {f_placeMoment : Nat → Int32} {f_placeValue : Nat → Int64} {f_isFilled : Nat → Int32} {f_uses : Nat → Int32} {f_heapsOne : Nat → Int32} {f_heapsOther : Nat → Int32} {L : List Nat} {pf : Nat → va_E} {nd : Nat → Int32} {sl : Nat → Int32}, i.toInt = 11 * (j : Int) → i.toInt ≤ 5632 → 512 < n + j → LI dC dI cA ax am A H xEr xRe xRz xRn gP gS gM gK gV gE gB xSz xPl xBe xRt xRf xRd xLk gSt gTr xSr xWm xTp gO gW gKk gVs xPz gPO gPM gPF gPV gMo gH1 gH2 v_status v_now v_told v_merges v_taped v_size v_from v_to v_fault v_readFault v_traits v_length v_open v_leaks v_places v_models f_rowPerson f_rowStream f_rowMoment f_rowKnown f_rowValue f_isGone f_mergeTo f_mergeKnown f_isErased f_tape f_five f_size0 f_step f_stepA f_stepB f_stepC f_values f_heap f_isOne f_lawFrom f_lawTo f_hasLaw f_limits f_held f_hasKept f_kept f_keptAt f_placeTrait f_placePerson f_placeMoment f_placeValue f_isFilled f_uses f_heapsOne f_heapsOther L pf nd sl → va_S A s.heap H locs → lv_has ls 4 [(3, .int i), (2, .ref (am 0)), (1, .ref (ax 0)), (0, .ref b)] → W p l e room_1 s m #[Value.ref b] below meth c H locs (100 + 210 * j) (60000 + 1100 * j) (lw_Z below #[Value.ref b] s) (F0 m 18 ls []) := by
  obtain ⟨hx, hb, hr, hml, hown, hts, hX, hbl, hlocks, hgv⟩ := id C0
  have hLt : (Int32.ofNat Ln).toInt = (Ln : Int) := nI_toInt (by omega)
  intro n
  induction n with
  | zero => intro i j H locs ls xEr xRe xRz xRn gP gS gM gK gV gE gB xSz xPl xBe xRt xRf xRd xLk gSt gTr xSr xWm xTp gO gW gKk gVs xPz gPO gPM gPF gPV gMo gH1 gH2 v_status v_now v_told v_merges v_taped v_size v_from v_to v_fault v_readFault v_traits v_length v_open v_leaks v_places v_models f_rowPerson f_rowStream f_rowMoment f_rowKnown f_rowValue f_isGone f_mergeTo f_mergeKnown f_isErased f_tape f_five f_size0 f_step f_stepA f_stepB f_stepC f_values f_heap f_isOne f_lawFrom f_lawTo f_hasLaw f_limits f_held f_hasKept f_kept f_keptAt f_placeTrait f_placePerson f_placeMoment f_placeValue f_isFilled f_uses f_heapsOne f_heapsOther L pf nd sl hij hi5 hn; exfalso; omega
  | succ n ih =>
    intro i j H locs ls xEr xRe xRz xRn gP gS gM gK gV gE gB xSz xPl xBe xRt xRf xRd xLk gSt gTr xSr xWm xTp gO gW gKk gVs xPz gPO gPM gPF gPV gMo gH1 gH2 v_status v_now v_told v_merges v_taped v_size v_from v_to v_fault v_readFault v_traits v_length v_open v_leaks v_places v_models f_rowPerson f_rowStream f_rowMoment f_rowKnown f_rowValue f_isGone f_mergeTo f_mergeKnown f_isErased f_tape f_five f_size0 f_step f_stepA f_stepB f_stepC f_values f_heap f_isOne f_lawFrom f_lawTo f_hasLaw f_limits f_held f_hasKept f_kept f_keptAt f_placeTrait f_placePerson f_placeMoment f_placeValue f_isFilled f_uses f_heapsOne f_heapsOther L pf nd sl hij hi5 hn hI hS hl
    refine lv_iload_n hx hb dL_law_18 rfl (lv_at hl 0 rfl) ?_
    refine lv_aload_n hx hb dL_law_19 rfl (lv_at hl 3 rfl) ?_
    refine va_slen hx hb hX hbl hbA hS dL_law_20 ?_
    refine lv_bipush (v := 11) hx hb dL_law_21 (by decide) ?_
    refine lv_isub hx hb dL_law_23 ?_
    refine lv_topi (fun x0 ex0 => ?_)
    have dx0 : x0.toInt = (Ln : Int) - 11 := by rw [ex0]; exact jI_sub hLt (by decide) (by omega) (by omega)
    refine lv_icmp_gt (tgt := 1236) hx hb dL_law_24 (by decide) (fun c_1 => ?_) (fun c_1 => ?_)
    · refine lv_iconst (v := 1) hx hb dL_law_1236 (by decide) ?_
      refine va_forget (fun q hq => hA2 _ (hS.2.2 q hq)) ?_
      refine W.widen (k := 600000) (n := 7302250) (by omega) (by omega) ?_
      exact lw_ret hx hb hr hlocks dL_law_1237
    have dc1 : i.toInt ≤ x0.toInt := jI_nlt c_1 rfl rfl
    have hiL : i.toInt + 11 ≤ (Ln : Int) := by omega
    have next : ∀ (H : Heap) (locs : List Loc) (ls : Array Slot) {xEr : Int32} {xRe : Int32} {xRz : Int32} {xRn : Int32} {gP : Nat → Int32} {gS : Nat → Int32} {gM : Nat → Int32} {gK : Nat → Int32} {gV : Nat → Int32} {gE : Nat → Int32} {gB : Nat → Int32} {xSz : Int32} {xPl : Int32} {xBe : Int32} {xRt : Int32} {xRf : Int32} {xRd : Int32} {xLk : Int32} {gSt : Nat → Option Nat} {gTr : Nat → Option Nat} {xSr : Int32} {xWm : Int32} {xTp : Int32} {gO : Nat → Int32} {gW : Nat → Int32} {gKk : Nat → Int64} {gVs : Nat → Int64} {xPz : Int32} {gPO : Nat → Int32} {gPM : Nat → Int32} {gPF : Nat → Int32} {gPV : Nat → Int64} {gMo : Nat → Int32} {gH1 : Nat → Int32} {gH2 : Nat → Int32} {v_status : Int32} {v_now : Int32} {v_told : Int32} {v_merges : Int32} {v_taped : Int32} {v_size : Int32} {v_from : Int32} {v_to : Int32} {v_fault : Int32} {v_readFault : Int32} {v_traits : Int32} {v_length : Int32} {v_open : Int32} {v_leaks : Int32} {v_places : Int32} {v_models : Int32} {f_rowPerson : Nat → Int32} {f_rowStream : Nat → Int32} {f_rowMoment : Nat → Int32} {f_rowKnown : Nat → Int32} {f_rowValue : Nat → Int32} {f_isGone : Nat → Int32} {f_mergeTo : Nat → Int32} {f_mergeKnown : Nat → Int32} {f_isErased : Nat → Int32} {f_tape : Nat → Int32} {f_five : Nat → Int32} {f_size0 : Nat → Int32} {f_step : Nat → Int32} {f_stepA : Nat → Int32} {f_stepB : Nat → Int32} {f_stepC : Nat → Int32} {f_values : Nat → Int64} {f_heap : Nat → Int64} {f_isOne : Nat → Int32} {f_lawFrom : Nat → Int64} {f_lawTo : Nat → Int64} {f_hasLaw : Nat → Int32} {f_limits : Nat → Int32} {f_held : Nat → Int32} {f_hasKept : Nat → Int32} {f_kept : Nat → Int64} {f_keptAt : Nat → Int32} {f_placeTrait : Nat → Int32} {f_placePerson : Nat → Int32} {f_placeMoment : Nat → Int32} {f_placeValue : Nat → Int64} {f_isFilled : Nat → Int32} {f_uses : Nat → Int32} {f_heapsOne : Nat → Int32} {f_heapsOther : Nat → Int32} {L : List Nat} {pf : Nat → va_E} {nd : Nat → Int32} {sl : Nat → Int32}, LI dC dI cA ax am A H xEr xRe xRz xRn gP gS gM gK gV gE gB xSz xPl xBe xRt xRf xRd xLk gSt gTr xSr xWm xTp gO gW gKk gVs xPz gPO gPM gPF gPV gMo gH1 gH2 v_status v_now v_told v_merges v_taped v_size v_from v_to v_fault v_readFault v_traits v_length v_open v_leaks v_places v_models f_rowPerson f_rowStream f_rowMoment f_rowKnown f_rowValue f_isGone f_mergeTo f_mergeKnown f_isErased f_tape f_five f_size0 f_step f_stepA f_stepB f_stepC f_values f_heap f_isOne f_lawFrom f_lawTo f_hasLaw f_limits f_held f_hasKept f_kept f_keptAt f_placeTrait f_placePerson f_placeMoment f_placeValue f_isFilled f_uses f_heapsOne f_heapsOther L pf nd sl → va_S A s.heap H locs → lv_has ls 4 [(3, .int i), (2, .ref (am 0)), (1, .ref (ax 0)), (0, .ref b)] → W p l e room_1 s m #[Value.ref b] below meth c H locs (100 + 210 * (j + 1)) (60000 + 1100 * (j + 1)) (lw_Z below #[Value.ref b] s) (F0 m 1230 ls []) := by
      intro H locs ls xEr xRe xRz xRn gP gS gM gK gV gE gB xSz xPl xBe xRt xRf xRd xLk gSt gTr xSr xWm xTp gO gW gKk gVs xPz gPO gPM gPF gPV gMo gH1 gH2 v_status v_now v_told v_merges v_taped v_size v_from v_to v_fault v_readFault v_traits v_length v_open v_leaks v_places v_models f_rowPerson f_rowStream f_rowMoment f_rowKnown f_rowValue f_isGone f_mergeTo f_mergeKnown f_isErased f_tape f_five f_size0 f_step f_stepA f_stepB f_stepC f_values f_heap f_isOne f_lawFrom f_lawTo f_hasLaw f_limits f_held f_hasKept f_kept f_keptAt f_placeTrait f_placePerson f_placeMoment f_placeValue f_isFilled f_uses f_heapsOne f_heapsOther L pf nd sl hI hS hl
      obtain ⟨x9, ex9⟩ : ∃ y : Int32, y = i + 11 := ⟨_, rfl⟩
      have dx9 : x9.toInt = i.toInt + 11 := by rw [ex9]; exact jI_add rfl (by decide) (by omega) (by omega)
      refine lv_iinc (v := x9) (lv' := [(3, .int x9), (2, .ref (am 0)), (1, .ref (ax 0)), (0, .ref b)]) hx hb dL_law_1230 hl (k := 0) rfl (by rw [ex9]; rfl) (by decide) rfl (fun ls hl => ?_)
      refine lv_goto (tgt := 18) hx hb dL_law_1233 (by decide) ?_
      exact ih x9 (j + 1) H locs ls (by omega) (by omega) (by omega) hI hS hl
    refine lv_aload_n hx hb dL_law_27 rfl (lv_at hl 3 rfl) ?_
    refine lv_iload_n hx hb dL_law_28 rfl (lv_at hl 0 rfl) ?_
    refine va_sld hx hb hX hbl hbA hS (vp_in_iff.mpr ⟨by omega, by omega⟩) dL_law_29 ?_
    refine lv_bipush (v := 31) hx hb dL_law_30 (by decide) ?_
    refine lv_iand hx hb dL_law_32 ?_
    refine lv_topi (fun sw esw => ?_)
    rcases (jI_range sw 0 25) with hsw | hsw
    · refine lv_tableOut (tgt := 1230) hx hb dL_law_33 hsw (by decide) ?_
      refine W.widen (k := 100 + 210 * (j + 1)) (n := 60000 + 1100 * (j + 1)) (by omega) (by omega) ?_
      exact next _ _ _ hI hS hl
    rcases (show sw.toInt = 0 ∨ sw.toInt = 1 ∨ sw.toInt = 2 ∨ sw.toInt = 3 ∨ sw.toInt = 4 ∨ sw.toInt = 5 ∨ sw.toInt = 6 ∨ sw.toInt = 7 ∨ sw.toInt = 8 ∨ sw.toInt = 9 ∨ sw.toInt = 10 ∨ sw.toInt = 11 ∨ sw.toInt = 12 ∨ sw.toInt = 13 ∨ sw.toInt = 14 ∨ sw.toInt = 15 ∨ sw.toInt = 16 ∨ sw.toInt = 17 ∨ sw.toInt = 18 ∨ sw.toInt = 19 ∨ sw.toInt = 20 ∨ sw.toInt = 21 ∨ sw.toInt = 22 ∨ sw.toInt = 23 ∨ sw.toInt = 24 ∨ sw.toInt = 25 by omega) with hsw | hsw | hsw | hsw | hsw | hsw | hsw | hsw | hsw | hsw | hsw | hsw | hsw | hsw | hsw | hsw | hsw | hsw | hsw | hsw | hsw | hsw | hsw | hsw | hsw | hsw
    · refine lv_tableIn (off := 119) (tgt := 152) hx hb dL_law_33 (by omega) (by omega) (by rw [hsw]; rfl) (by decide) ?_
      exact lww_now C0 hN hSt hK hA hbA i j hij hiL hLn next H locs ls hI hS hl
    · refine lv_tableIn (off := 142) (tgt := 175) hx hb dL_law_33 (by omega) (by omega) (by rw [hsw]; rfl) (by decide) ?_
      exact lww_row C0 hN hSt hK hA hbA i j hij hiL hLn next H locs ls hI hS hl
    · refine lv_tableIn (off := 205) (tgt := 238) hx hb dL_law_33 (by omega) (by omega) (by rw [hsw]; rfl) (by decide) ?_
      exact lww_merge C0 hN hSt hK hA hbA i j hij hiL hLn next H locs ls hI hS hl
    · refine lv_tableIn (off := 248) (tgt := 281) hx hb dL_law_33 (by omega) (by omega) (by rw [hsw]; rfl) (by decide) ?_
      exact lww_leads C0 hN hSt hK hA hbA i j hij hiL hLn next H locs ls hI hS hl
    · refine lv_tableIn (off := 281) (tgt := 314) hx hb dL_law_33 (by omega) (by omega) (by rw [hsw]; rfl) (by decide) ?_
      exact lww_erase C0 hN hSt hK hA hbA i j hij hiL hLn next H locs ls hI hS hl
    · refine lv_tableIn (off := 304) (tgt := 337) hx hb dL_law_33 (by omega) (by omega) (by rw [hsw]; rfl) (by decide) ?_
      exact lww_feed C0 hN hSt hK hA hbA i j hij hiL hLn next H locs ls hI hS hl
    · refine lv_tableIn (off := 367) (tgt := 400) hx hb dL_law_33 (by omega) (by omega) (by rw [hsw]; rfl) (by decide) ?_
      exact lww_end C0 hN hSt hK hA hbA i j hij hiL hLn next H locs ls hI hS hl
    · refine lv_tableIn (off := 390) (tgt := 423) hx hb dL_law_33 (by omega) (by omega) (by rw [hsw]; rfl) (by decide) ?_
      exact lww_trait C0 hN hSt hK hA hbA i j hij hiL hLn next H locs ls hI hS hl
    · refine lv_tableIn (off := 403) (tgt := 436) hx hb dL_law_33 (by omega) (by omega) (by rw [hsw]; rfl) (by decide) ?_
      exact lww_fault C0 hN hSt hK hA hbA i j hij hiL hLn next H locs ls hI hS hl
    · refine lv_tableIn (off := 416) (tgt := 449) hx hb dL_law_33 (by omega) (by omega) (by rw [hsw]; rfl) (by decide) ?_
      exact lww_value C0 hN hSt hK hA hbA i j hij hiL hLn next H locs ls hI hS hl
    · refine lv_tableIn (off := 469) (tgt := 502) hx hb dL_law_33 (by omega) (by omega) (by rw [hsw]; rfl) (by decide) ?_
      exact lww_law C0 hN hSt hK hA hbA i j hij hiL hLn next H locs ls hI hS hl
    · refine lv_tableIn (off := 572) (tgt := 605) hx hb dL_law_33 (by omega) (by omega) (by rw [hsw]; rfl) (by decide) ?_
      exact lww_limit C0 hN hSt hK hA hbA i j hij hiL hLn next H locs ls hI hS hl
    · refine lv_tableIn (off := 605) (tgt := 638) hx hb dL_law_33 (by omega) (by omega) (by rw [hsw]; rfl) (by decide) ?_
      exact lww_freshen C0 hN hSt hK hA hbA i j hij hiL hLn next H locs ls hI hS hl
    · refine lv_tableIn (off := 628) (tgt := 661) hx hb dL_law_33 (by omega) (by omega) (by rw [hsw]; rfl) (by decide) ?_
      exact lww_kept C0 hN hSt hK hA hbA i j hij hiL hLn next H locs ls hI hS hl
    · refine lv_tableIn (off := 661) (tgt := 694) hx hb dL_law_33 (by omega) (by omega) (by rw [hsw]; rfl) (by decide) ?_
      exact lww_age C0 hN hSt hK hA hbA i j hij hiL hLn next H locs ls hI hS hl
    · refine lv_tableIn (off := 704) (tgt := 737) hx hb dL_law_33 (by omega) (by omega) (by rw [hsw]; rfl) (by decide) ?_
      exact lww_held C0 hN hSt hK hA hbA i j hij hiL hLn next H locs ls hI hS hl
    · refine lv_tableIn (off := 727) (tgt := 760) hx hb dL_law_33 (by omega) (by omega) (by rw [hsw]; rfl) (by decide) ?_
      exact lww_fill C0 hN hSt hK hA hbA i j hij hiL hLn next H locs ls hI hS hl
    · refine lv_tableIn (off := 780) (tgt := 813) hx hb dL_law_33 (by omega) (by omega) (by rw [hsw]; rfl) (by decide) ?_
      exact lww_history C0 hN hSt hK hA hbA i j hij hiL hLn next H locs ls hI hS hl
    · refine lv_tableIn (off := 823) (tgt := 856) hx hb dL_law_33 (by omega) (by omega) (by rw [hsw]; rfl) (by decide) ?_
      exact lww_told C0 hN hSt hK hA hbA i j hij hiL hLn next H locs ls hI hS hl
    · refine lv_tableIn (off := 876) (tgt := 909) hx hb dL_law_33 (by omega) (by omega) (by rw [hsw]; rfl) (by decide) ?_
      exact lww_model C0 hN hSt hK hA hbA i j hij hiL hLn next H locs ls hI hS hl
    · refine lv_tableIn (off := 899) (tgt := 932) hx hb dL_law_33 (by omega) (by omega) (by rw [hsw]; rfl) (by decide) ?_
      exact lww_needed C0 hN hSt hK hA hbA i j hij hiL hLn next H locs ls hI hS hl
    · refine lv_tableIn (off := 922) (tgt := 955) hx hb dL_law_33 (by omega) (by omega) (by rw [hsw]; rfl) (by decide) ?_
      exact lww_hung C0 hN hSt hK hA hbA i j hij hiL hLn next H locs ls hI hS hl
    · refine lv_tableIn (off := 945) (tgt := 978) hx hb dL_law_33 (by omega) (by omega) (by rw [hsw]; rfl) (by decide) ?_
      exact lww_misses C0 hN hSt hK hA hbA i j hij hiL hLn next H locs ls hI hS hl
    · refine lv_tableIn (off := 978) (tgt := 1011) hx hb dL_law_33 (by omega) (by omega) (by rw [hsw]; rfl) (by decide) ?_
      exact lww_shift C0 hN hSt hK hA hbA i j hij hiL hLn next H locs ls hI hS hl
    · refine lv_tableIn (off := 1161) (tgt := 1194) hx hb dL_law_33 (by omega) (by omega) (by rw [hsw]; rfl) (by decide) ?_
      exact lww_count C0 hN hSt hK hA hbA i j hij hiL hLn next H locs ls hI hS hl
    · refine lv_tableIn (off := 1184) (tgt := 1217) hx hb dL_law_33 (by omega) (by omega) (by rw [hsw]; rfl) (by decide) ?_
      exact lww_status C0 hN hSt hK hA hbA i j hij hiL hLn next H locs ls hI hS hl
