theorem dX8_traitAt_0 : decode cX8_traitAt 0 = .ok (.iload_n 1, 1) := by decide +kernel
theorem dX8_traitAt_1 : decode cX8_traitAt 1 = .ok (.ifCond .lt 20, 3) := by decide +kernel
theorem dX8_traitAt_21 : decode cX8_traitAt 21 = .ok (.aconst_null, 1) := by decide +kernel
theorem dX8_traitAt_22 : decode cX8_traitAt 22 = .ok (.areturn, 1) := by decide +kernel
theorem dX8_traitAt_4 : decode cX8_traitAt 4 = .ok (.iload_n 1, 1) := by decide +kernel
theorem dX8_traitAt_5 : decode cX8_traitAt 5 = .ok (.aload_n 0, 1) := by decide +kernel
theorem dX8_traitAt_6 : decode cX8_traitAt 6 = .ok (.getfield 148, 3) := by decide +kernel
theorem dX8_traitAt_9 : decode cX8_traitAt 9 = .ok (.if_icmp .ge 12, 3) := by decide +kernel
theorem dX8_traitAt_12 : decode cX8_traitAt 12 = .ok (.aload_n 0, 1) := by decide +kernel
theorem dX8_traitAt_13 : decode cX8_traitAt 13 = .ok (.getfield 45, 3) := by decide +kernel
theorem dX8_traitAt_16 : decode cX8_traitAt 16 = .ok (.iload_n 1, 1) := by decide +kernel
theorem dX8_traitAt_17 : decode cX8_traitAt 17 = .ok (.aaload, 1) := by decide +kernel
theorem dX8_traitAt_18 : decode cX8_traitAt 18 = .ok (.goto 4, 3) := by decide +kernel
theorem dX8_needsOf_0 : decode cX8_needsOf 0 = .ok (.iconst 0, 1) := by decide +kernel
theorem dX8_needsOf_1 : decode cX8_needsOf 1 = .ok (.istore_n 2, 1) := by decide +kernel
theorem dX8_needsOf_2 : decode cX8_needsOf 2 = .ok (.iconst 0, 1) := by decide +kernel
theorem dX8_needsOf_3 : decode cX8_needsOf 3 = .ok (.istore_n 3, 1) := by decide +kernel
theorem dX8_needsOf_4 : decode cX8_needsOf 4 = .ok (.iload_n 3, 1) := by decide +kernel
theorem dX8_needsOf_5 : decode cX8_needsOf 5 = .ok (.aload_n 0, 1) := by decide +kernel
theorem dX8_needsOf_6 : decode cX8_needsOf 6 = .ok (.getfield 148, 3) := by decide +kernel
theorem dX8_needsOf_9 : decode cX8_needsOf 9 = .ok (.if_icmp .ge 37, 3) := by decide +kernel
theorem dX8_needsOf_46 : decode cX8_needsOf 46 = .ok (.iload_n 2, 1) := by decide +kernel
theorem dX8_needsOf_47 : decode cX8_needsOf 47 = .ok (.ireturn, 1) := by decide +kernel
theorem dX8_needsOf_12 : decode cX8_needsOf 12 = .ok (.aload_n 0, 1) := by decide +kernel
theorem dX8_needsOf_13 : decode cX8_needsOf 13 = .ok (.iload_n 3, 1) := by decide +kernel
set_option maxRecDepth 20000 in
theorem ggX8_needsOf_X8_traitAt : GoodIn wsX8_needsOf wsX8_traitAt := goodIn_r _ [6, 1, 7, 11, 12, 13, 14, 15, 16, 17, 18, 19, 20, 21, 22, 23, 24, 25, 26, 27] (by decide +kernel) (by decide +kernel)
set_option maxRecDepth 20000 in
theorem gX8_needsOf_X8_traitAt : GoodIn wsX8_needsOf (wsV RX8 130 RX8 yX8_traitAt wsX8_traitAt) := goodIn_app (goodIn_of _ (by decide +kernel)) ggX8_needsOf_X8_traitAt
theorem dX8_needsOf_14 : decode cX8_needsOf 14 = .ok (.invokevirtual 130, 3) := by decide +kernel
theorem dX8_needsOf_17 : decode cX8_needsOf 17 = .ok (.astore 4, 2) := by decide +kernel
theorem dX8_needsOf_19 : decode cX8_needsOf 19 = .ok (.aload 4, 2) := by decide +kernel
theorem dX8_needsOf_21 : decode cX8_needsOf 21 = .ok (.ifnull 19, 3) := by decide +kernel
theorem dX8_needsOf_24 : decode cX8_needsOf 24 = .ok (.iload_n 1, 1) := by decide +kernel
theorem dX8_needsOf_25 : decode cX8_needsOf 25 = .ok (.iload_n 3, 1) := by decide +kernel
set_option maxRecDepth 20000 in
theorem ggX8_needsOf_X8_hasBit : GoodIn wsX8_needsOf wsX8_hasBit := goodIn_r _ [10] (by decide +kernel) (by decide +kernel)
set_option maxRecDepth 20000 in
theorem gX8_needsOf_X8_hasBit : GoodIn wsX8_needsOf (va_wsS RX8 256 yX8_hasBit wsX8_hasBit) := goodIn_app (goodIn_of _ (by decide +kernel)) ggX8_needsOf_X8_hasBit
theorem dX8_needsOf_26 : decode cX8_needsOf 26 = .ok (.invokestatic 256, 3) := by decide +kernel
theorem dX8_needsOf_29 : decode cX8_needsOf 29 = .ok (.ifCond .eq 11, 3) := by decide +kernel
theorem dX8_needsOf_40 : decode cX8_needsOf 40 = .ok (.iinc 3 1, 3) := by decide +kernel
theorem dX8_needsOf_43 : decode cX8_needsOf 43 = .ok (.goto (-39), 3) := by decide +kernel
theorem dX8_needsOf_32 : decode cX8_needsOf 32 = .ok (.iload_n 2, 1) := by decide +kernel
theorem dX8_needsOf_33 : decode cX8_needsOf 33 = .ok (.aload 4, 2) := by decide +kernel
theorem dX8_needsOf_35 : decode cX8_needsOf 35 = .ok (.getfield 297, 3) := by decide +kernel
theorem dX8_needsOf_38 : decode cX8_needsOf 38 = .ok (.ior, 1) := by decide +kernel
theorem dX8_needsOf_39 : decode cX8_needsOf 39 = .ok (.istore_n 2, 1) := by decide +kernel
set_option maxHeartbeats 8000000 in
set_option maxRecDepth 100000 in
theorem k_X8_traitAt (l : Launch) (dC : Nat → ClassId) (dI : Nat → Nat → Nat) (cA : Nat → ClassId) (sz : Nat) (ax : Nat → Nat) (xNow : Int32) (xEr : Int32) (xTr : Int32) (xMo : Int32) (xFa : Int32) (xRe : Int32) (gTr : Nat → Option Nat) (a : Int32) (i_xNow : 0 ≤ xNow.toInt ∧ xNow.toInt ≤ 100000) (i_xTr : 0 ≤ xTr.toInt ∧ xTr.toInt ≤ 20) (i_xMo : 0 ≤ xMo.toInt ∧ xMo.toInt ≤ 10)  : Met l yX8_traitAt wsX8_traitAt ({ frames := 0, cells := 0, slots := 0, locals := 0 }) (va_Pc [.ref (ax 0), .int a] (fun U => U.heap.size = sz ∧ va_P (dC, dI) vwCl [((ax 0), .inr (8, [.ref (ax 1), .ref (ax 7), .ref (ax 10), .ref (ax 11), .ref (ax 13), .ref (ax 15), .ref (ax 16), .ref (ax 21), .ref (ax 26), .ref (ax 27), .ref (ax 28), .int xNow, .int xEr, .int xTr, .int xMo, .int xFa, .int xRe])), ((ax 15), .inl (cA 5, 20, .inr (.inr (.inr (.inr gTr)))))] U.heap ∧ va_K (dC, dI) vwCl (tyL cA) U ∧ va_D (fun _ => True) [((ax 0), .inr (8, [.ref (ax 1), .ref (ax 7), .ref (ax 10), .ref (ax 11), .ref (ax 13), .ref (ax 15), .ref (ax 16), .ref (ax 21), .ref (ax 26), .ref (ax 27), .ref (ax 28), .int xNow, .int xEr, .int xTr, .int xMo, .int xFa, .int xRe])), ((ax 15), .inl (cA 5, 20, .inr (.inr (.inr (.inr gTr)))))] ∧ nw_ok U)) (va_Qq (fun (r : Option Nat) (_ : Unit) => ((0 ≤ a.toInt ∧ a.toInt < xTr.toInt → r = gTr a.toNatClampNeg) ∧ (¬ (0 ≤ a.toInt ∧ a.toInt < xTr.toInt) → r = none))) (fun (_ : Unit) (t : State) => va_P (dC, dI) vwCl [((ax 0), .inr (8, [.ref (ax 1), .ref (ax 7), .ref (ax 10), .ref (ax 11), .ref (ax 13), .ref (ax 15), .ref (ax 16), .ref (ax 21), .ref (ax 26), .ref (ax 27), .ref (ax 28), .int xNow, .int xEr, .int xTr, .int xMo, .int xFa, .int xRe])), ((ax 15), .inl (cA 5, 20, .inr (.inr (.inr (.inr gTr)))))] t.heap ∧ va_D (va_A [((ax 0), .inr (8, [.ref (ax 1), .ref (ax 7), .ref (ax 10), .ref (ax 11), .ref (ax 13), .ref (ax 15), .ref (ax 16), .ref (ax 21), .ref (ax 26), .ref (ax 27), .ref (ax 28), .int xNow, .int xEr, .int xTr, .int xMo, .int xFa, .int xRe])), ((ax 15), .inl (cA 5, 20, .inr (.inr (.inr (.inr gTr)))))] sz) [((ax 0), .inr (8, [.ref (ax 1), .ref (ax 7), .ref (ax 10), .ref (ax 11), .ref (ax 13), .ref (ax 15), .ref (ax 16), .ref (ax 21), .ref (ax 26), .ref (ax 27), .ref (ax 28), .int xNow, .int xEr, .int xTr, .int xMo, .int xFa, .int xRe])), ((ax 15), .inl (cA 5, 20, .inr (.inr (.inr (.inr gTr)))))]) (va_A [((ax 0), .inr (8, [.ref (ax 1), .ref (ax 7), .ref (ax 10), .ref (ax 11), .ref (ax 13), .ref (ax 15), .ref (ax 16), .ref (ax 21), .ref (ax 26), .ref (ax 27), .ref (ax 28), .int xNow, .int xEr, .int xTr, .int xMo, .int xFa, .int xRe])), ((ax 15), .inl (cA 5, 20, .inr (.inr (.inr (.inr gTr)))))] sz)) 0 0 (va_A [((ax 0), .inr (8, [.ref (ax 1), .ref (ax 7), .ref (ax 10), .ref (ax 11), .ref (ax 13), .ref (ax 15), .ref (ax 16), .ref (ax 21), .ref (ax 26), .ref (ax 27), .ref (ax 28), .int xNow, .int xEr, .int xTr, .int xMo, .int xFa, .int xRe])), ((ax 15), .inl (cA 5, 20, .inr (.inr (.inr (.inr gTr)))))] sz) := by
  refine Met.ofW (cc := cX8_traitAt) (maxL := 2) (ret := (some (.object "TraitHouse$Trait"))) (by decide) rfl ?_
  intro p e s m args below meth c s₁ B hml hv
  obtain ⟨rfl, hsz, hP, hK, hD0, hN⟩ := hv
  have hx := B.exec
  have hb := B.bytes
  have hr := B.returns
  have hts := atoms_spec (ws := wsX8_traitAt) B.pre
  have hown : s.vm.findClass RX8 = some m.cls := findClass_of_methodNamed B.named
  have hlocks := B.notSynchronized
  subst hsz
  have hD := hD0.self (sz := s.heap.size)
  generalize hAe : va_A [((ax 0), .inr (8, [.ref (ax 1), .ref (ax 7), .ref (ax 10), .ref (ax 11), .ref (ax 13), .ref (ax 15), .ref (ax 16), .ref (ax 21), .ref (ax 26), .ref (ax 27), .ref (ax 28), .int xNow, .int xEr, .int xTr, .int xMo, .int xFa, .int xRe])), ((ax 15), .inl (cA 5, 20, .inr (.inr (.inr (.inr gTr)))))] s.heap.size = A at hD ⊢
  have hA : ∀ q : Nat, s.heap.size ≤ q → A q := fun q h => by rw [← hAe]; exact Or.inr h
  have hS : va_S A s.heap s.heap [] := va_S.rf
  have hIX8 : ∀ w ∈ u_ws RX8 TX8 17, w ∈ wsX8_traitAt := by decide +kernel
  have hl := lv_entry ([.ref (ax 0), .int a]) (n := 2) (Nat.le_of_ble_eq_true rfl)
  rw [lg_entry_eq]
  generalize (lg_sl ([.ref (ax 0), .int a]) ++ List.replicate (2 - (lg_sl ([.ref (ax 0), .int a])).length) Slot.unset).toArray = ls at hl ⊢
  have hl : lv_has ls 2 [(0, .ref (ax 0)), (1, .int a)] := hl
  generalize hQe : MQ below _ _ _ _ _ _ = QQ
  refine lv_iload_n hx hb dX8_traitAt_0 rfl (lv_at hl 1 rfl) ?_
  refine lv_if_lt (tgt := 21) hx hb dX8_traitAt_1 (by decide) (fun c_1 => ?_) (fun c_1 => ?_)
  · have dc_1 : a.toInt < 0 := jI_lt c_1 rfl (by decide)
    refine lv_null hx hb dX8_traitAt_21 ?_
    have hP9 := hP.sub (ws' := [((ax 0), .inr (8, [.ref (ax 1), .ref (ax 7), .ref (ax 10), .ref (ax 11), .ref (ax 13), .ref (ax 15), .ref (ax 16), .ref (ax 21), .ref (ax 26), .ref (ax 27), .ref (ax 28), .int xNow, .int xEr, .int xTr, .int xMo, .int xFa, .int xRe])), ((ax 15), .inl (cA 5, 20, .inr (.inr (.inr (.inr gTr)))))]) [0, 1] rfl
    have hD9 := hD.sub (ws' := [((ax 0), .inr (8, [.ref (ax 1), .ref (ax 7), .ref (ax 10), .ref (ax 11), .ref (ax 13), .ref (ax 15), .ref (ax 16), .ref (ax 21), .ref (ax 26), .ref (ax 27), .ref (ax 28), .int xNow, .int xEr, .int xTr, .int xMo, .int xFa, .int xRe])), ((ax 15), .inl (cA 5, 20, .inr (.inr (.inr (.inr gTr)))))]) [0, 1] (by decide) rfl
    subst hQe
    have hpost : ((0 ≤ a.toInt ∧ a.toInt < xTr.toInt → (none : Option Nat) = gTr a.toNatClampNeg) ∧ (¬ (0 ≤ a.toInt ∧ a.toInt < xTr.toInt) → (none : Option Nat) = none)) := ⟨fun h => by exfalso; omega, fun _ => rfl⟩
    exact W.aret hx hb hr (Or.inl ⟨_, rfl⟩) (Or.inl rfl) (fun t ht hW => ⟨⟨none, (), rfl, hpost, by rw [ht]; exact hP9, hD9⟩, hS.F ht⟩) hS.2.2 dX8_traitAt_22
  · have dc_1 : 0 ≤ a.toInt := jI_nlt c_1 rfl (by decide)
    refine lv_iload_n hx hb dX8_traitAt_4 rfl (lv_at hl 1 rfl) ?_
    refine lv_aload_n hx hb dX8_traitAt_5 rfl (lv_at hl 0 rfl) ?_
    refine va_get (D := (dC, dI)) (ci := 8) (v := .int xTr) (C := RX8) (T := TX8) (N := 17) hx hb hts hIX8 hown hK hP 0 rfl rfl 13 (by decide) (hts (.fieldLink RX8 148 "TraitHouse" "traitsThere" "I") (by decide +kernel)) (fun _ h9 => h9) rfl dX8_traitAt_6 ?_
    refine lv_icmp_ge (tgt := 21) hx hb dX8_traitAt_9 (by decide) (fun c_2 => ?_) (fun c_2 => ?_)
    · have dc_2 : xTr.toInt ≤ a.toInt := jI_le c_2 rfl rfl
      refine lv_null hx hb dX8_traitAt_21 ?_
      have hP9 := hP.sub (ws' := [((ax 0), .inr (8, [.ref (ax 1), .ref (ax 7), .ref (ax 10), .ref (ax 11), .ref (ax 13), .ref (ax 15), .ref (ax 16), .ref (ax 21), .ref (ax 26), .ref (ax 27), .ref (ax 28), .int xNow, .int xEr, .int xTr, .int xMo, .int xFa, .int xRe])), ((ax 15), .inl (cA 5, 20, .inr (.inr (.inr (.inr gTr)))))]) [0, 1] rfl
      have hD9 := hD.sub (ws' := [((ax 0), .inr (8, [.ref (ax 1), .ref (ax 7), .ref (ax 10), .ref (ax 11), .ref (ax 13), .ref (ax 15), .ref (ax 16), .ref (ax 21), .ref (ax 26), .ref (ax 27), .ref (ax 28), .int xNow, .int xEr, .int xTr, .int xMo, .int xFa, .int xRe])), ((ax 15), .inl (cA 5, 20, .inr (.inr (.inr (.inr gTr)))))]) [0, 1] (by decide) rfl
      subst hQe
      have hpost : ((0 ≤ a.toInt ∧ a.toInt < xTr.toInt → (none : Option Nat) = gTr a.toNatClampNeg) ∧ (¬ (0 ≤ a.toInt ∧ a.toInt < xTr.toInt) → (none : Option Nat) = none)) := ⟨fun h => by exfalso; omega, fun _ => rfl⟩
      exact W.aret hx hb hr (Or.inl ⟨_, rfl⟩) (Or.inl rfl) (fun t ht hW => ⟨⟨none, (), rfl, hpost, by rw [ht]; exact hP9, hD9⟩, hS.F ht⟩) hS.2.2 dX8_traitAt_22
    · have dc_2 : a.toInt < xTr.toInt := jI_nle c_2 rfl rfl
      refine lv_aload_n hx hb dX8_traitAt_12 rfl (lv_at hl 0 rfl) ?_
      refine va_get (D := (dC, dI)) (ci := 8) (v := .ref (ax 15)) (C := RX8) (T := TX8) (N := 17) hx hb hts hIX8 hown hK hP 0 rfl rfl 5 (by decide) (hts (.fieldLink RX8 45 "TraitHouse" "traits" "[LTraitHouse$Trait;") (by decide +kernel)) (fun _ h9 => h9) rfl dX8_traitAt_13 ?_
      refine lv_iload_n hx hb dX8_traitAt_16 rfl (lv_at hl 1 rfl) ?_
      have h_3 : vp_in a 20 := (vp_in_iff.mpr ⟨by omega, by omega⟩)
      refine va_aldq hx hb hK hP 1 5 rfl rfl h_3 dX8_traitAt_17 ?_
      refine lv_goto (tgt := 22) hx hb dX8_traitAt_18 (by decide) ?_
      have hP9 := hP.sub (ws' := [((ax 0), .inr (8, [.ref (ax 1), .ref (ax 7), .ref (ax 10), .ref (ax 11), .ref (ax 13), .ref (ax 15), .ref (ax 16), .ref (ax 21), .ref (ax 26), .ref (ax 27), .ref (ax 28), .int xNow, .int xEr, .int xTr, .int xMo, .int xFa, .int xRe])), ((ax 15), .inl (cA 5, 20, .inr (.inr (.inr (.inr gTr)))))]) [0, 1] rfl
      have hD9 := hD.sub (ws' := [((ax 0), .inr (8, [.ref (ax 1), .ref (ax 7), .ref (ax 10), .ref (ax 11), .ref (ax 13), .ref (ax 15), .ref (ax 16), .ref (ax 21), .ref (ax 26), .ref (ax 27), .ref (ax 28), .int xNow, .int xEr, .int xTr, .int xMo, .int xFa, .int xRe])), ((ax 15), .inl (cA 5, 20, .inr (.inr (.inr (.inr gTr)))))]) [0, 1] (by decide) rfl
      subst hQe
      have hpost : ((0 ≤ a.toInt ∧ a.toInt < xTr.toInt → (gTr a.toNatClampNeg) = gTr a.toNatClampNeg) ∧ (¬ (0 ≤ a.toInt ∧ a.toInt < xTr.toInt) → (gTr a.toNatClampNeg) = none)) := ⟨fun _ => rfl, fun h => by exfalso; omega⟩
      exact W.aret hx hb hr (Or.inl ⟨_, rfl⟩) (va_rf_or _) (fun t ht hW => ⟨⟨(gTr a.toNatClampNeg), (), rfl, hpost, by rw [ht]; exact hP9, hD9⟩, hS.F ht⟩) hS.2.2 dX8_traitAt_22

set_option maxHeartbeats 8000000 in
set_option maxRecDepth 100000 in
theorem k_X8_needsOf (l : Launch) (dC : Nat → ClassId) (dI : Nat → Nat → Nat) (cA : Nat → ClassId) (sz : Nat) (ax : Nat → Nat) (xNow : Int32) (xEr : Int32) (xTr : Int32) (xMo : Int32) (xFa : Int32) (xRe : Int32) (gTr : Nat → Option Nat) (L : List Nat) (pf : Nat → va_E) (a : Int32) (nd : Nat → Int32) (sl : Nat → Int32) (i_xNow : 0 ≤ xNow.toInt ∧ xNow.toInt ≤ 100000) (i_xTr : 0 ≤ xTr.toInt ∧ xTr.toInt ≤ 20) (i_xMo : 0 ≤ xMo.toInt ∧ xMo.toInt ≤ 10) (hTP : TP cA xTr gTr L pf nd sl) : Met l yX8_needsOf wsX8_needsOf ({ frames := 1, cells := 0, slots := 0, locals := 21 }) (va_Pc [.ref (ax 0), .int a] (fun U => U.heap.size = sz ∧ va_P (dC, dI) vwCl ([((ax 0), .inr (8, [.ref (ax 1), .ref (ax 7), .ref (ax 10), .ref (ax 11), .ref (ax 13), .ref (ax 15), .ref (ax 16), .ref (ax 21), .ref (ax 26), .ref (ax 27), .ref (ax 28), .int xNow, .int xEr, .int xTr, .int xMo, .int xFa, .int xRe])), ((ax 15), .inl (cA 5, 20, .inr (.inr (.inr (.inr gTr)))))] ++ va_pl L pf) U.heap ∧ va_K (dC, dI) vwCl (tyL cA) U ∧ va_D (fun _ => True) ([((ax 0), .inr (8, [.ref (ax 1), .ref (ax 7), .ref (ax 10), .ref (ax 11), .ref (ax 13), .ref (ax 15), .ref (ax 16), .ref (ax 21), .ref (ax 26), .ref (ax 27), .ref (ax 28), .int xNow, .int xEr, .int xTr, .int xMo, .int xFa, .int xRe])), ((ax 15), .inl (cA 5, 20, .inr (.inr (.inr (.inr gTr)))))] ++ va_pl L pf) ∧ nw_ok U)) (va_Qi (fun (r : Int32) (_ : Unit) => (r = nds nd a xTr.toInt.toNat)) (fun (_ : Unit) (t : State) => va_P (dC, dI) vwCl ([((ax 0), .inr (8, [.ref (ax 1), .ref (ax 7), .ref (ax 10), .ref (ax 11), .ref (ax 13), .ref (ax 15), .ref (ax 16), .ref (ax 21), .ref (ax 26), .ref (ax 27), .ref (ax 28), .int xNow, .int xEr, .int xTr, .int xMo, .int xFa, .int xRe])), ((ax 15), .inl (cA 5, 20, .inr (.inr (.inr (.inr gTr)))))] ++ va_pl L pf) t.heap ∧ va_D (va_A ([((ax 0), .inr (8, [.ref (ax 1), .ref (ax 7), .ref (ax 10), .ref (ax 11), .ref (ax 13), .ref (ax 15), .ref (ax 16), .ref (ax 21), .ref (ax 26), .ref (ax 27), .ref (ax 28), .int xNow, .int xEr, .int xTr, .int xMo, .int xFa, .int xRe])), ((ax 15), .inl (cA 5, 20, .inr (.inr (.inr (.inr gTr)))))] ++ va_pl L pf) sz) ([((ax 0), .inr (8, [.ref (ax 1), .ref (ax 7), .ref (ax 10), .ref (ax 11), .ref (ax 13), .ref (ax 15), .ref (ax 16), .ref (ax 21), .ref (ax 26), .ref (ax 27), .ref (ax 28), .int xNow, .int xEr, .int xTr, .int xMo, .int xFa, .int xRe])), ((ax 15), .inl (cA 5, 20, .inr (.inr (.inr (.inr gTr)))))] ++ va_pl L pf)) (va_A ([((ax 0), .inr (8, [.ref (ax 1), .ref (ax 7), .ref (ax 10), .ref (ax 11), .ref (ax 13), .ref (ax 15), .ref (ax 16), .ref (ax 21), .ref (ax 26), .ref (ax 27), .ref (ax 28), .int xNow, .int xEr, .int xTr, .int xMo, .int xFa, .int xRe])), ((ax 15), .inl (cA 5, 20, .inr (.inr (.inr (.inr gTr)))))] ++ va_pl L pf) sz)) 0 0 (va_A ([((ax 0), .inr (8, [.ref (ax 1), .ref (ax 7), .ref (ax 10), .ref (ax 11), .ref (ax 13), .ref (ax 15), .ref (ax 16), .ref (ax 21), .ref (ax 26), .ref (ax 27), .ref (ax 28), .int xNow, .int xEr, .int xTr, .int xMo, .int xFa, .int xRe])), ((ax 15), .inl (cA 5, 20, .inr (.inr (.inr (.inr gTr)))))] ++ va_pl L pf) sz) := by
  refine Met.ofW (cc := cX8_needsOf) (maxL := 5) (ret := (some .int)) (by decide) rfl ?_
  intro p e s m args below meth c s₁ B hml hv
  obtain ⟨rfl, hsz, hP, hK, hD0, hN⟩ := hv
  have hx := B.exec
  have hb := B.bytes
  have hr := B.returns
  have hts := atoms_spec (ws := wsX8_needsOf) B.pre
  have hown : s.vm.findClass RX8 = some m.cls := findClass_of_methodNamed B.named
  have hlocks := B.notSynchronized
  subst hsz
  have hD := hD0.self (sz := s.heap.size)
  generalize hAe : va_A ([((ax 0), .inr (8, [.ref (ax 1), .ref (ax 7), .ref (ax 10), .ref (ax 11), .ref (ax 13), .ref (ax 15), .ref (ax 16), .ref (ax 21), .ref (ax 26), .ref (ax 27), .ref (ax 28), .int xNow, .int xEr, .int xTr, .int xMo, .int xFa, .int xRe])), ((ax 15), .inl (cA 5, 20, .inr (.inr (.inr (.inr gTr)))))] ++ va_pl L pf) s.heap.size = A at hD ⊢
  have hA : ∀ q : Nat, s.heap.size ≤ q → A q := fun q h => by rw [← hAe]; exact Or.inr h
  have hS : va_S A s.heap s.heap [] := va_S.rf
  have hIX6 : ∀ w ∈ u_ws RX6 TX6 8, w ∈ wsX8_needsOf := by decide +kernel
  have hIX8 : ∀ w ∈ u_ws RX8 TX8 17, w ∈ wsX8_needsOf := by decide +kernel
  have hl := lv_entry ([.ref (ax 0), .int a]) (n := 5) (Nat.le_of_ble_eq_true rfl)
  rw [lg_entry_eq]
  generalize (lg_sl ([.ref (ax 0), .int a]) ++ List.replicate (5 - (lg_sl ([.ref (ax 0), .int a])).length) Slot.unset).toArray = ls at hl ⊢
  have hl : lv_has ls 5 [(0, .ref (ax 0)), (1, .int a)] := hl
  generalize hQe : MQ below _ _ _ _ _ _ = QQ
  refine lv_iconst (v := 0) hx hb dX8_needsOf_0 (by decide) ?_
  refine lv_istore_n (lv' := [(2, .int 0), (0, .ref (ax 0)), (1, .int a)]) hx hb dX8_needsOf_1 rfl hl (by decide) rfl (fun ls hl => ?_)
  refine lv_iconst (v := 0) hx hb dX8_needsOf_2 (by decide) ?_
  refine lv_istore_n (lv' := [(3, .int 0), (2, .int 0), (0, .ref (ax 0)), (1, .int a)]) hx hb dX8_needsOf_3 rfl hl (by decide) rfl (fun ls hl => ?_)
  have loop4_1 : ∀ (n : Nat) (i3 : Int32) (n2 : Int32) (H : Heap) (locs : List Loc) (ls : Array Slot), 20 - i3.toInt < (n : Int) → (0 ≤ i3.toInt ∧ i3.toInt ≤ 20) → (i3.toInt ≤ xTr.toInt) → (n2 = nds nd a i3.toInt.toNat) → va_P (dC, dI) vwCl ([((ax 0), .inr (8, [.ref (ax 1), .ref (ax 7), .ref (ax 10), .ref (ax 11), .ref (ax 13), .ref (ax 15), .ref (ax 16), .ref (ax 21), .ref (ax 26), .ref (ax 27), .ref (ax 28), .int xNow, .int xEr, .int xTr, .int xMo, .int xFa, .int xRe])), ((ax 15), .inl (cA 5, 20, .inr (.inr (.inr (.inr gTr)))))] ++ va_pl L pf) H → va_D A ([((ax 0), .inr (8, [.ref (ax 1), .ref (ax 7), .ref (ax 10), .ref (ax 11), .ref (ax 13), .ref (ax 15), .ref (ax 16), .ref (ax 21), .ref (ax 26), .ref (ax 27), .ref (ax 28), .int xNow, .int xEr, .int xTr, .int xMo, .int xFa, .int xRe])), ((ax 15), .inl (cA 5, 20, .inr (.inr (.inr (.inr gTr)))))] ++ va_pl L pf) → va_S A s.heap H locs → lv_has ls 5 [(3, .int i3), (2, .int n2), (0, .ref (ax 0)), (1, .int a)] → W p l e ({ frames := 1, cells := 0, slots := 0, locals := 21 }) s m ([.ref (ax 0), .int a] : List Value).toArray below meth c H locs 0 0 QQ (F0 m 4 ls []) := by
    intro n
    induction n with
    | zero => intro i3 n2 H locs ls hme hv0_4 hv1_4 hv2_4; exfalso; omega
    | succ n ih_4 =>
      intro i3 n2 H locs ls hme_4 hv0_4 hv1_4 hv2_4 hP hD hS hl
      refine lv_iload_n hx hb dX8_needsOf_4 rfl (lv_at hl 0 rfl) ?_
      refine lv_aload_n hx hb dX8_needsOf_5 rfl (lv_at hl 2 rfl) ?_
      refine va_get (D := (dC, dI)) (ci := 8) (v := .int xTr) (C := RX8) (T := TX8) (N := 17) hx hb hts hIX8 hown hK hP 0 rfl rfl 13 (by decide) (hts (.fieldLink RX8 148 "TraitHouse" "traitsThere" "I") (by decide +kernel)) (fun _ h9 => h9) rfl dX8_needsOf_6 ?_
      refine lv_icmp_ge (tgt := 46) hx hb dX8_needsOf_9 (by decide) (fun c_2 => ?_) (fun c_2 => ?_)
      · have dc_2 : xTr.toInt ≤ i3.toInt := jI_le c_2 rfl rfl
        refine lv_iload_n hx hb dX8_needsOf_46 rfl (lv_at hl 1 rfl) ?_
        have hP9 := hP.part (cx := [((ax 0), .inr (8, [.ref (ax 1), .ref (ax 7), .ref (ax 10), .ref (ax 11), .ref (ax 13), .ref (ax 15), .ref (ax 16), .ref (ax 21), .ref (ax 26), .ref (ax 27), .ref (ax 28), .int xNow, .int xEr, .int xTr, .int xMo, .int xFa, .int xRe])), ((ax 15), .inl (cA 5, 20, .inr (.inr (.inr (.inr gTr)))))]) [0, 1] rfl
        have hD9 := hD.part (cx := [((ax 0), .inr (8, [.ref (ax 1), .ref (ax 7), .ref (ax 10), .ref (ax 11), .ref (ax 13), .ref (ax 15), .ref (ax 16), .ref (ax 21), .ref (ax 26), .ref (ax 27), .ref (ax 28), .int xNow, .int xEr, .int xTr, .int xMo, .int xFa, .int xRe])), ((ax 15), .inl (cA 5, 20, .inr (.inr (.inr (.inr gTr)))))]) [0, 1] (by decide) rfl
        subst hQe
        have hans : (n2 : Int32).toInt = n2.toInt := rfl
        have hpost : ((n2 : Int32) = nds nd a xTr.toInt.toNat) := (by rw [← show i3.toInt.toNat = xTr.toInt.toNat by omega]; exact hv2_4)
        exact W.iret (v := n2) hx hb hr (fun t ht hW => ⟨⟨n2, (), rfl, hpost, by rw [ht]; exact hP9, hD9⟩, hS.F ht⟩) hS.2.2 dX8_needsOf_47
      · have dc_2 : i3.toInt < xTr.toInt := jI_nle c_2 rfl rfl
        refine lv_aload_n hx hb dX8_needsOf_12 rfl (lv_at hl 2 rfl) ?_
        refine lv_iload_n hx hb dX8_needsOf_13 rfl (lv_at hl 0 rfl) ?_
        have hPc := hP.sub (ws' := [((ax 0), .inr (8, [.ref (ax 1), .ref (ax 7), .ref (ax 10), .ref (ax 11), .ref (ax 13), .ref (ax 15), .ref (ax 16), .ref (ax 21), .ref (ax 26), .ref (ax 27), .ref (ax 28), .int xNow, .int xEr, .int xTr, .int xMo, .int xFa, .int xRe])), ((ax 15), .inl (cA 5, 20, .inr (.inr (.inr (.inr gTr)))))]) [0, 1] rfl
        have hDc := hD.sub (ws' := [((ax 0), .inr (8, [.ref (ax 1), .ref (ax 7), .ref (ax 10), .ref (ax 11), .ref (ax 13), .ref (ax 15), .ref (ax 16), .ref (ax 21), .ref (ax 26), .ref (ax 27), .ref (ax 28), .int xNow, .int xEr, .int xTr, .int xMo, .int xFa, .int xRe])), ((ax 15), .inl (cA 5, 20, .inr (.inr (.inr (.inr gTr)))))]) [0, 1] (by decide) rfl
        have hFc := va_free (wc := [((ax 0), .inr (8, [.ref (ax 1), .ref (ax 7), .ref (ax 10), .ref (ax 11), .ref (ax 13), .ref (ax 15), .ref (ax 16), .ref (ax 21), .ref (ax 26), .ref (ax 27), .ref (ax 28), .int xNow, .int xEr, .int xTr, .int xMo, .int xFa, .int xRe])), ((ax 15), .inl (cA 5, 20, .inr (.inr (.inr (.inr gTr)))))]) hD hS hA [0, 1] rfl
        refine va_callq (va_runV (As := [.int i3]) (rest := []) ⟨hx, hb, hml, hown, hts⟩ (k_X8_traitAt l dC dI cA H.size ax xNow xEr xTr xMo xFa xRe gTr i3 i_xNow i_xTr i_xMo) (cwV 1 hts gX8_needsOf_X8_traitAt rfl rfl rfl (by decide +kernel) ⟨Nat.le_of_ble_eq_true rfl, Nat.le_of_ble_eq_true rfl⟩) ⟨fun a U g mk q => by obtain ⟨q0, q1, qP, qK, qD, qN⟩ := q; exact ⟨q0, q1, qP, va_K.moved (u := U) (U := U.calling g mk a) (Vm.Alike.refl U.vm) qK, qD, qN.same rfl⟩, va_recv hK hPc (ci := 8) (q0 := 0) rfl rfl, fun U hU hW => ⟨rfl, by rw [hU], by rw [hU]; exact hPc, va_K.moved hW.alike hK, hDc.weaken (fun _ _ _ _ => trivial), hN.warm hW⟩⟩ rfl rfl hl.1 rfl (lv_room (Nat.le_of_ble_eq_true rfl)) dX8_needsOf_14 ⟨Nat.le_of_ble_eq_true rfl, Nat.le_of_ble_eq_true rfl⟩) hS (fun q _ h => hFc q h) hFc (fun r_3 u_4 t H1 locs ht hvm hw_5 hB hz1 hk1 hS => ?_)
        try dsimp only at hw_5 hB
        have po_6 := hw_5
        obtain ⟨hP1, hD1⟩ := hB
        rw [ht] at hP1
        obtain ⟨hP, hD⟩ := va_joinQ (wr := []) (w1 := [((ax 0), .inr (8, [.ref (ax 1), .ref (ax 7), .ref (ax 10), .ref (ax 11), .ref (ax 13), .ref (ax 15), .ref (ax 16), .ref (ax 21), .ref (ax 26), .ref (ax 27), .ref (ax 28), .int xNow, .int xEr, .int xTr, .int xMo, .int xFa, .int xRe])), ((ax 15), .inl (cA 5, 20, .inr (.inr (.inr (.inr gTr)))))]) hP hD [0, 1] [] rfl rfl (by decide) (by decide) hk1 hFc hP1 hD1
        clear hz1
        generalize H1 = H at hP hS ⊢
        replace hP : va_P (dC, dI) vwCl ([((ax 0), .inr (8, [.ref (ax 1), .ref (ax 7), .ref (ax 10), .ref (ax 11), .ref (ax 13), .ref (ax 15), .ref (ax 16), .ref (ax 21), .ref (ax 26), .ref (ax 27), .ref (ax 28), .int xNow, .int xEr, .int xTr, .int xMo, .int xFa, .int xRe])), ((ax 15), .inl (cA 5, 20, .inr (.inr (.inr (.inr gTr)))))] ++ va_pl L pf) H := hP
        replace hD : va_D A ([((ax 0), .inr (8, [.ref (ax 1), .ref (ax 7), .ref (ax 10), .ref (ax 11), .ref (ax 13), .ref (ax 15), .ref (ax 16), .ref (ax 21), .ref (ax 26), .ref (ax 27), .ref (ax 28), .int xNow, .int xEr, .int xTr, .int xMo, .int xFa, .int xRe])), ((ax 15), .inl (cA 5, 20, .inr (.inr (.inr (.inr gTr)))))] ++ va_pl L pf) := hD
        by_cases hT_7 : 0 ≤ i3.toInt ∧ i3.toInt < xTr.toInt
        · have hrq := po_6.1 hT_7
          obtain ⟨ndv_7, hnd_7⟩ : ∃ z : Int32, z = nd i3.toNatClampNeg := ⟨_, rfl⟩
          obtain ⟨slv_7, hsl_7⟩ : ∃ z : Int32, z = sl i3.toNatClampNeg := ⟨_, rfl⟩
          obtain ⟨t_7, hte_7, hok_7⟩ := TP_at (i := i3) hTP (by omega) (by omega)
          rw [← hnd_7, ← hsl_7] at hok_7
          have hok9 := hok_7
          obtain ⟨htm_7, s_7, v_7, m_7, lf_7, lt_7, he_7, htf_7, hso_7, hvm_7, ⟨kv_7, hvf_7⟩, hmm_7, km_7, hmf_7⟩ := hok9
          rw [hte_7] at hrq
          obtain rfl : r_3 = some t_7 := hrq
          refine W.eq (g2 := F0 m 17 ls [.ref t_7]) rfl ?_
          refine lv_astore (lv' := [(4, .ref t_7), (3, .int i3), (2, .int n2), (0, .ref (ax 0)), (1, .int a)]) hx hb dX8_needsOf_17 hl (by decide) rfl (fun ls hl => ?_)
          refine lv_aload hx hb dX8_needsOf_19 (lv_at hl 0 rfl) ?_
          refine lv_ifnull hx hb dX8_needsOf_21 ?_
          refine lv_iload_n hx hb dX8_needsOf_24 rfl (lv_at hl 4 rfl) ?_
          refine lv_iload_n hx hb dX8_needsOf_25 rfl (lv_at hl 1 rfl) ?_
          have hPc := hP.sub (ws' := []) [] rfl
          have hDc := hD.sub (ws' := []) [] (by decide) rfl
          have hFc := va_free (wc := []) hD hS hA [] rfl
          refine va_calli (va_runS (As := [.int a, .int i3]) (rest := []) ⟨hx, hb, hml, hown, hts⟩ (k_X8_hasBit l dC dI cA H.size a i3 (by omega)) (va_cwS 2 hts gX8_needsOf_X8_hasBit rfl rfl rfl (by decide +kernel) ⟨Nat.le_of_ble_eq_true rfl, Nat.le_of_ble_eq_true rfl⟩) ⟨fun a U g mk q => by obtain ⟨q0, q1, qP, qK, qD, qN⟩ := q; exact ⟨q0, q1, qP, va_K.moved (u := U) (U := U.calling g mk a) (Vm.Alike.refl U.vm) qK, qD, qN.same rfl⟩, fun U hU hW => ⟨rfl, by rw [hU], by rw [hU]; exact hPc, va_K.moved hW.alike hK, hDc.weaken (fun _ _ _ _ => trivial), hN.warm hW⟩⟩ rfl rfl hl.1 rfl (lv_room (Nat.le_of_ble_eq_true rfl)) dX8_needsOf_26 ⟨Nat.le_of_ble_eq_true rfl, Nat.le_of_ble_eq_true rfl⟩) hS (fun q _ h => hFc q h) hFc (fun r_8 u_9 t H1 locs ht hvm hw_10 hB hz1 hk1 hS => ?_)
          try dsimp only at hw_10 hB
          obtain ⟨po_11, tb_12⟩ := hw_10
          obtain ⟨hP1, hD1⟩ := hB
          rw [ht] at hP1
          obtain ⟨hP, hD⟩ := va_joinQ (wr := [((ax 0), .inr (8, [.ref (ax 1), .ref (ax 7), .ref (ax 10), .ref (ax 11), .ref (ax 13), .ref (ax 15), .ref (ax 16), .ref (ax 21), .ref (ax 26), .ref (ax 27), .ref (ax 28), .int xNow, .int xEr, .int xTr, .int xMo, .int xFa, .int xRe])), ((ax 15), .inl (cA 5, 20, .inr (.inr (.inr (.inr gTr)))))]) (w1 := []) hP hD [] [0, 1] rfl rfl (by decide) (by decide) hk1 hFc hP1 hD1
          clear hz1
          generalize H1 = H at hP hS ⊢
          replace hP : va_P (dC, dI) vwCl ([((ax 0), .inr (8, [.ref (ax 1), .ref (ax 7), .ref (ax 10), .ref (ax 11), .ref (ax 13), .ref (ax 15), .ref (ax 16), .ref (ax 21), .ref (ax 26), .ref (ax 27), .ref (ax 28), .int xNow, .int xEr, .int xTr, .int xMo, .int xFa, .int xRe])), ((ax 15), .inl (cA 5, 20, .inr (.inr (.inr (.inr gTr)))))] ++ va_pl L pf) H := hP
          replace hD : va_D A ([((ax 0), .inr (8, [.ref (ax 1), .ref (ax 7), .ref (ax 10), .ref (ax 11), .ref (ax 13), .ref (ax 15), .ref (ax 16), .ref (ax 21), .ref (ax 26), .ref (ax 27), .ref (ax 28), .int xNow, .int xEr, .int xTr, .int xMo, .int xFa, .int xRe])), ((ax 15), .inl (cA 5, 20, .inr (.inr (.inr (.inr gTr)))))] ++ va_pl L pf) := hD
          refine lv_if_eq (tgt := 40) hx hb dX8_needsOf_29 (by decide) (fun c_13 => ?_) (fun c_13 => ?_)
          · have dc_13 : r_8.toInt = 0 := jI_eq c_13 rfl (by decide)
            obtain ⟨x_14, ex_14⟩ : ∃ y : Int32, y = i3 + 1 := ⟨_, rfl⟩
            have dx_14 : x_14.toInt = i3.toInt + 1 := by rw [ex_14]; exact jI_add rfl (by decide) (by omega) (by omega)
            refine lv_iinc (v := x_14) (lv' := [(3, .int x_14), (4, .ref t_7), (2, .int n2), (0, .ref (ax 0)), (1, .int a)]) hx hb dX8_needsOf_40 hl (k := 1) rfl (by rw [ex_14]; rfl) (by decide) rfl (fun ls hl => ?_)
            refine lv_goto (tgt := 4) hx hb dX8_needsOf_43 (by decide) ?_
            exact ih_4 x_14 n2 _ _ ls (by omega) (by omega) (by omega) (nds_s0 hv2_4 (by omega) (fun h => absurd (tb_12.mpr h) (by omega)) (by omega)) (hP.part (cx := [((ax 0), .inr (8, [.ref (ax 1), .ref (ax 7), .ref (ax 10), .ref (ax 11), .ref (ax 13), .ref (ax 15), .ref (ax 16), .ref (ax 21), .ref (ax 26), .ref (ax 27), .ref (ax 28), .int xNow, .int xEr, .int xTr, .int xMo, .int xFa, .int xRe])), ((ax 15), .inl (cA 5, 20, .inr (.inr (.inr (.inr gTr)))))]) [0, 1] rfl) (hD.part (cx := [((ax 0), .inr (8, [.ref (ax 1), .ref (ax 7), .ref (ax 10), .ref (ax 11), .ref (ax 13), .ref (ax 15), .ref (ax 16), .ref (ax 21), .ref (ax 26), .ref (ax 27), .ref (ax 28), .int xNow, .int xEr, .int xTr, .int xMo, .int xFa, .int xRe])), ((ax 15), .inl (cA 5, 20, .inr (.inr (.inr (.inr gTr)))))]) [0, 1] (by decide) rfl) hS (lv_sub hl [0, 2, 3, 4] rfl)
          · have dc_13 : ¬ r_8.toInt = 0 := jI_ne c_13 rfl (by decide)
            refine lv_iload_n hx hb dX8_needsOf_32 rfl (lv_at hl 2 rfl) ?_
            refine lv_aload hx hb dX8_needsOf_33 (lv_at hl 0 rfl) ?_
            obtain ⟨pk_15, hpk_15⟩ := va_pl_get (X := [((ax 0), .inr (8, [.ref (ax 1), .ref (ax 7), .ref (ax 10), .ref (ax 11), .ref (ax 13), .ref (ax 15), .ref (ax 16), .ref (ax 21), .ref (ax 26), .ref (ax 27), .ref (ax 28), .int xNow, .int xEr, .int xTr, .int xMo, .int xFa, .int xRe])), ((ax 15), .inl (cA 5, 20, .inr (.inr (.inr (.inr gTr)))))]) (f := pf) htm_7
            have gpk_15 := hpk_15
            rw [htf_7] at hpk_15
            refine va_getN (D := (dC, dI)) (ci := 6) (v := .int ndv_7) (C := RX6) (T := TX6) (N := 8) hx hb hts hIX6 hown hK hP pk_15 hpk_15 rfl 1 (by decide) (va_Nw.use rfl (nw_at hN 23 rfl)) (fun _ h9 => h9) rfl dX8_needsOf_35 ?_
            refine lv_ior hx hb dX8_needsOf_38 ?_
            refine lv_topi (fun x_16 ex_16 => ?_)
            refine lv_istore_n (lv' := [(2, .int x_16), (4, .ref t_7), (3, .int i3), (0, .ref (ax 0)), (1, .int a)]) hx hb dX8_needsOf_39 rfl hl (by decide) rfl (fun ls hl => ?_)
            obtain ⟨x_17, ex_17⟩ : ∃ y : Int32, y = i3 + 1 := ⟨_, rfl⟩
            have dx_17 : x_17.toInt = i3.toInt + 1 := by rw [ex_17]; exact jI_add rfl (by decide) (by omega) (by omega)
            refine lv_iinc (v := x_17) (lv' := [(3, .int x_17), (2, .int x_16), (4, .ref t_7), (0, .ref (ax 0)), (1, .int a)]) hx hb dX8_needsOf_40 hl (k := 2) rfl (by rw [ex_17]; rfl) (by decide) rfl (fun ls hl => ?_)
            refine lv_goto (tgt := 4) hx hb dX8_needsOf_43 (by decide) ?_
            exact ih_4 x_17 x_16 _ _ ls (by omega) (by omega) (by omega) (nds_s1 hv2_4 (by omega) (tb_12.mp (by omega)) ex_16 hnd_7 (by omega)) (hP.part (cx := [((ax 0), .inr (8, [.ref (ax 1), .ref (ax 7), .ref (ax 10), .ref (ax 11), .ref (ax 13), .ref (ax 15), .ref (ax 16), .ref (ax 21), .ref (ax 26), .ref (ax 27), .ref (ax 28), .int xNow, .int xEr, .int xTr, .int xMo, .int xFa, .int xRe])), ((ax 15), .inl (cA 5, 20, .inr (.inr (.inr (.inr gTr)))))]) [0, 1] rfl) (hD.part (cx := [((ax 0), .inr (8, [.ref (ax 1), .ref (ax 7), .ref (ax 10), .ref (ax 11), .ref (ax 13), .ref (ax 15), .ref (ax 16), .ref (ax 21), .ref (ax 26), .ref (ax 27), .ref (ax 28), .int xNow, .int xEr, .int xTr, .int xMo, .int xFa, .int xRe])), ((ax 15), .inl (cA 5, 20, .inr (.inr (.inr (.inr gTr)))))]) [0, 1] (by decide) rfl) hS (lv_sub hl [0, 1, 3, 4] rfl)
        · have hrq := po_6.2 hT_7
          obtain rfl : r_3 = none := hrq
          refine W.eq (g2 := F0 m 17 ls [.null]) rfl ?_
          refine lv_astoreN (lv' := [(4, .null), (3, .int i3), (2, .int n2), (0, .ref (ax 0)), (1, .int a)]) hx hb dX8_needsOf_17 hl (by decide) rfl (fun ls hl => ?_)
          refine lv_aloadN hx hb dX8_needsOf_19 (lv_at hl 0 rfl) ?_
          refine lv_ifnullN (tgt := 40) hx hb dX8_needsOf_21 (by decide) ?_
          obtain ⟨x_18, ex_18⟩ : ∃ y : Int32, y = i3 + 1 := ⟨_, rfl⟩
          have dx_18 : x_18.toInt = i3.toInt + 1 := by rw [ex_18]; exact jI_add rfl (by decide) (by omega) (by omega)
          refine lv_iinc (v := x_18) (lv' := [(3, .int x_18), (4, .null), (2, .int n2), (0, .ref (ax 0)), (1, .int a)]) hx hb dX8_needsOf_40 hl (k := 1) rfl (by rw [ex_18]; rfl) (by decide) rfl (fun ls hl => ?_)
          refine lv_goto (tgt := 4) hx hb dX8_needsOf_43 (by decide) ?_
          exact ih_4 x_18 n2 _ _ ls (by omega) (by omega) (by omega) (by exfalso; omega) (hP.part (cx := [((ax 0), .inr (8, [.ref (ax 1), .ref (ax 7), .ref (ax 10), .ref (ax 11), .ref (ax 13), .ref (ax 15), .ref (ax 16), .ref (ax 21), .ref (ax 26), .ref (ax 27), .ref (ax 28), .int xNow, .int xEr, .int xTr, .int xMo, .int xFa, .int xRe])), ((ax 15), .inl (cA 5, 20, .inr (.inr (.inr (.inr gTr)))))]) [0, 1] rfl) (hD.part (cx := [((ax 0), .inr (8, [.ref (ax 1), .ref (ax 7), .ref (ax 10), .ref (ax 11), .ref (ax 13), .ref (ax 15), .ref (ax 16), .ref (ax 21), .ref (ax 26), .ref (ax 27), .ref (ax 28), .int xNow, .int xEr, .int xTr, .int xMo, .int xFa, .int xRe])), ((ax 15), .inl (cA 5, 20, .inr (.inr (.inr (.inr gTr)))))]) [0, 1] (by decide) rfl) hS (lv_sub hl [0, 2, 3, 4] rfl)
  have hk_19 : (0 : Int32).toInt = 0 := by decide
  have hk_20 : (0 : Int32).toInt = 0 := by decide
  exact loop4_1 (Int.toNat (20 - (0 : Int32).toInt) + 1) 0 0 _ _ ls (by omega) (by omega) (by omega) (by rw [show (0 : Int32).toInt.toNat = 0 from rfl]; rfl) hP hD hS (lv_sub hl [0, 1, 2, 3] rfl)
