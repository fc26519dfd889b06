theorem dX8_hung_0 : decode cX8_hung 0 = .ok (.aload_n 0, 1) := by decide +kernel
theorem dX8_hung_1 : decode cX8_hung 1 = .ok (.iload_n 1, 1) := by decide +kernel
set_option maxRecDepth 20000 in
theorem ggX8_hung_X8_traitAt : GoodIn wsX8_hung wsX8_traitAt := goodIn_r _ [7, 8, 9, 13, 14, 15, 16, 17, 18, 19, 20, 21, 22, 23, 24, 25, 26, 27, 28, 29] (by decide +kernel) (by decide +kernel)
set_option maxRecDepth 20000 in
theorem gX8_hung_X8_traitAt : GoodIn wsX8_hung (wsV RX8 130 RX8 yX8_traitAt wsX8_traitAt) := goodIn_app (goodIn_of _ (by decide +kernel)) ggX8_hung_X8_traitAt
theorem dX8_hung_2 : decode cX8_hung 2 = .ok (.invokevirtual 130, 3) := by decide +kernel
theorem dX8_hung_5 : decode cX8_hung 5 = .ok (.ifnonnull 5, 3) := by decide +kernel
theorem dX8_hung_10 : decode cX8_hung 10 = .ok (.iconst 0, 1) := by decide +kernel
theorem dX8_hung_11 : decode cX8_hung 11 = .ok (.istore_n 2, 1) := by decide +kernel
theorem dX8_hung_12 : decode cX8_hung 12 = .ok (.iconst 0, 1) := by decide +kernel
theorem dX8_hung_13 : decode cX8_hung 13 = .ok (.istore_n 3, 1) := by decide +kernel
theorem dX8_hung_14 : decode cX8_hung 14 = .ok (.iload_n 3, 1) := by decide +kernel
theorem dX8_hung_15 : decode cX8_hung 15 = .ok (.aload_n 0, 1) := by decide +kernel
theorem dX8_hung_16 : decode cX8_hung 16 = .ok (.getfield 250, 3) := by decide +kernel
theorem dX8_hung_19 : decode cX8_hung 19 = .ok (.if_icmp .ge 25, 3) := by decide +kernel
theorem dX8_hung_44 : decode cX8_hung 44 = .ok (.iload_n 2, 1) := by decide +kernel
theorem dX8_hung_45 : decode cX8_hung 45 = .ok (.ireturn, 1) := by decide +kernel
theorem dX8_hung_22 : decode cX8_hung 22 = .ok (.aload_n 0, 1) := by decide +kernel
theorem dX8_hung_23 : decode cX8_hung 23 = .ok (.getfield 65, 3) := by decide +kernel
theorem dX8_hung_26 : decode cX8_hung 26 = .ok (.iload_n 3, 1) := by decide +kernel
theorem dX8_hung_27 : decode cX8_hung 27 = .ok (.iaload, 1) := by decide +kernel
theorem dX8_hung_28 : decode cX8_hung 28 = .ok (.iload_n 1, 1) := by decide +kernel
set_option maxRecDepth 20000 in
theorem ggX8_hung_X8_hasBit : GoodIn wsX8_hung wsX8_hasBit := goodIn_r _ [12] (by decide +kernel) (by decide +kernel)
set_option maxRecDepth 20000 in
theorem gX8_hung_X8_hasBit : GoodIn wsX8_hung (va_wsS RX8 256 yX8_hasBit wsX8_hasBit) := goodIn_app (goodIn_of _ (by decide +kernel)) ggX8_hung_X8_hasBit
theorem dX8_hung_29 : decode cX8_hung 29 = .ok (.invokestatic 256, 3) := by decide +kernel
theorem dX8_hung_32 : decode cX8_hung 32 = .ok (.ifCond .eq 6, 3) := by decide +kernel
theorem dX8_hung_38 : decode cX8_hung 38 = .ok (.iinc 3 1, 3) := by decide +kernel
theorem dX8_hung_41 : decode cX8_hung 41 = .ok (.goto (-27), 3) := by decide +kernel
theorem dX8_hung_35 : decode cX8_hung 35 = .ok (.iinc 2 1, 3) := by decide +kernel
theorem dX8_hung_8 : decode cX8_hung 8 = .ok (.iconst (-1), 1) := by decide +kernel
theorem dX8_hung_9 : decode cX8_hung 9 = .ok (.ireturn, 1) := by decide +kernel
theorem dX8_model_0 : decode cX8_model 0 = .ok (.iload_n 1, 1) := by decide +kernel
theorem dX8_model_1 : decode cX8_model 1 = .ok (.aload_n 0, 1) := by decide +kernel
theorem dX8_model_2 : decode cX8_model 2 = .ok (.getfield 148, 3) := by decide +kernel
theorem dX8_model_5 : decode cX8_model 5 = .ok (.iushr, 1) := by decide +kernel
theorem dX8_model_6 : decode cX8_model 6 = .ok (.ifCond .eq 9, 3) := by decide +kernel
theorem dX8_model_15 : decode cX8_model 15 = .ok (.aload_n 0, 1) := by decide +kernel
theorem dX8_model_16 : decode cX8_model 16 = .ok (.getfield 250, 3) := by decide +kernel
theorem dX8_model_19 : decode cX8_model 19 = .ok (.bipush 10, 2) := by decide +kernel
theorem dX8_model_21 : decode cX8_model 21 = .ok (.if_icmp .lt 10, 3) := by decide +kernel
theorem dX8_model_31 : decode cX8_model 31 = .ok (.aload_n 0, 1) := by decide +kernel
theorem dX8_model_32 : decode cX8_model 32 = .ok (.getfield 65, 3) := by decide +kernel
theorem dX8_model_35 : decode cX8_model 35 = .ok (.aload_n 0, 1) := by decide +kernel
theorem dX8_model_36 : decode cX8_model 36 = .ok (.getfield 250, 3) := by decide +kernel
theorem dX8_model_39 : decode cX8_model 39 = .ok (.aload_n 0, 1) := by decide +kernel
theorem dX8_model_40 : decode cX8_model 40 = .ok (.iload_n 1, 1) := by decide +kernel
set_option maxRecDepth 20000 in
theorem ggX8_model_X8_needsOf : GoodIn wsX8_model wsX8_needsOf := goodIn_r _ [17, 1, 18, 19, 20, 7, 21, 22, 23, 24, 25, 26, 27, 28, 29, 30, 31, 32, 33, 34, 35, 36, 37, 38, 39, 40, 41, 42, 43, 44, 45, 46, 47, 48, 49, 50] (by decide +kernel) (by decide +kernel)
set_option maxRecDepth 20000 in
theorem gX8_model_X8_needsOf : GoodIn wsX8_model (wsV RX8 169 RX8 yX8_needsOf wsX8_needsOf) := goodIn_app (goodIn_of _ (by decide +kernel)) ggX8_model_X8_needsOf
theorem dX8_model_41 : decode cX8_model 41 = .ok (.invokevirtual 169, 3) := by decide +kernel
theorem dX8_model_44 : decode cX8_model 44 = .ok (.iastore, 1) := by decide +kernel
theorem dX8_model_45 : decode cX8_model 45 = .ok (.aload_n 0, 1) := by decide +kernel
theorem dX8_model_46 : decode cX8_model 46 = .ok (.dup, 1) := by decide +kernel
theorem dX8_model_47 : decode cX8_model 47 = .ok (.getfield 250, 3) := by decide +kernel
theorem dX8_model_50 : decode cX8_model 50 = .ok (.iconst 1, 1) := by decide +kernel
theorem dX8_model_51 : decode cX8_model 51 = .ok (.iadd, 1) := by decide +kernel
theorem dX8_model_52 : decode cX8_model 52 = .ok (.putfield 250, 3) := by decide +kernel
theorem dX8_model_55 : decode cX8_model 55 = .ok (.aload_n 0, 1) := by decide +kernel
theorem dX8_model_56 : decode cX8_model 56 = .ok (.aload_n 0, 1) := by decide +kernel
theorem dX8_model_57 : decode cX8_model 57 = .ok (.getfield 250, 3) := by decide +kernel
theorem dX8_model_60 : decode cX8_model 60 = .ok (.iconst 1, 1) := by decide +kernel
theorem dX8_model_61 : decode cX8_model 61 = .ok (.isub, 1) := by decide +kernel
set_option maxRecDepth 20000 in
theorem ggX8_model_X8_settle : GoodIn wsX8_model wsX8_settle := goodIn_r _ [8, 9, 10, 11, 12, 13, 26, 27, 28, 29, 30, 31, 32, 33, 34, 35, 36, 37, 38, 39, 40, 41, 42] (by decide +kernel) (by decide +kernel)
set_option maxRecDepth 20000 in
theorem gX8_model_X8_settle : GoodIn wsX8_model (wsV RX8 86 RX8 yX8_settle wsX8_settle) := goodIn_app (goodIn_of _ (by decide +kernel)) ggX8_model_X8_settle
theorem dX8_model_62 : decode cX8_model 62 = .ok (.invokevirtual 86, 3) := by decide +kernel
theorem dX8_model_65 : decode cX8_model 65 = .ok (.ireturn, 1) := by decide +kernel
theorem dX8_model_24 : decode cX8_model 24 = .ok (.aload_n 0, 1) := by decide +kernel
theorem dX8_model_25 : decode cX8_model 25 = .ok (.bipush (-5), 2) := by decide +kernel
theorem dX8_model_27 : decode cX8_model 27 = .ok (.invokevirtual 86, 3) := by decide +kernel
theorem dX8_model_30 : decode cX8_model 30 = .ok (.ireturn, 1) := by decide +kernel
theorem dX8_model_9 : decode cX8_model 9 = .ok (.aload_n 0, 1) := by decide +kernel
theorem dX8_model_10 : decode cX8_model 10 = .ok (.iconst (-1), 1) := by decide +kernel
theorem dX8_model_11 : decode cX8_model 11 = .ok (.invokevirtual 86, 3) := by decide +kernel
theorem dX8_model_14 : decode cX8_model 14 = .ok (.ireturn, 1) := by decide +kernel
set_option maxHeartbeats 8000000 in
set_option maxRecDepth 100000 in
theorem k_X8_hung (l : Launch) (dC : Nat → ClassId) (dI : Nat → Nat → Nat) (cA : Nat → ClassId) (sz : Nat) (ax : Nat → Nat) (xNow : Int32) (xEr : Int32) (xTr : Int32) (xMo : Int32) (xFa : Int32) (xRe : Int32) (gTr : Nat → Option Nat) (gMo : Nat → Int32) (L : List Nat) (pf : Nat → va_E) (tt : Int32) (nd : Nat → Int32) (sl : Nat → Int32) (i_xNow : 0 ≤ xNow.toInt ∧ xNow.toInt ≤ 100000) (i_xTr : 0 ≤ xTr.toInt ∧ xTr.toInt ≤ 20) (i_xMo : 0 ≤ xMo.toInt ∧ xMo.toInt ≤ 10) (hTP : TP cA xTr gTr L pf nd sl) : Met l yX8_hung wsX8_hung ({ frames := 1, cells := 0, slots := 0, locals := 21 }) (va_Pc [.ref (ax 0), .int tt] (fun U => U.heap.size = sz ∧ va_P (dC, dI) vwCl ([((ax 0), .inr (8, [.ref (ax 1), .ref (ax 7), .ref (ax 10), .ref (ax 11), .ref (ax 13), .ref (ax 15), .ref (ax 16), .ref (ax 21), .ref (ax 26), .ref (ax 27), .ref (ax 28), .int xNow, .int xEr, .int xTr, .int xMo, .int xFa, .int xRe])), ((ax 15), .inl (cA 5, 20, .inr (.inr (.inr (.inr gTr))))), ((ax 26), .inl (cA 0, 10, .inl gMo))] ++ va_pl L pf) U.heap ∧ va_K (dC, dI) vwCl (tyL cA) U ∧ va_D (fun _ => True) ([((ax 0), .inr (8, [.ref (ax 1), .ref (ax 7), .ref (ax 10), .ref (ax 11), .ref (ax 13), .ref (ax 15), .ref (ax 16), .ref (ax 21), .ref (ax 26), .ref (ax 27), .ref (ax 28), .int xNow, .int xEr, .int xTr, .int xMo, .int xFa, .int xRe])), ((ax 15), .inl (cA 5, 20, .inr (.inr (.inr (.inr gTr))))), ((ax 26), .inl (cA 0, 10, .inl gMo))] ++ va_pl L pf) ∧ nw_ok U)) (va_Qi (fun (r : Int32) (_ : Unit) => ((0 ≤ tt.toInt ∧ tt.toInt < xTr.toInt → r.toInt = (hgc gMo tt.toInt.toNat xMo.toInt.toNat : Int)) ∧ (¬ (0 ≤ tt.toInt ∧ tt.toInt < xTr.toInt) → r.toInt = (-1)))) (fun (_ : Unit) (t : State) => va_P (dC, dI) vwCl ([((ax 0), .inr (8, [.ref (ax 1), .ref (ax 7), .ref (ax 10), .ref (ax 11), .ref (ax 13), .ref (ax 15), .ref (ax 16), .ref (ax 21), .ref (ax 26), .ref (ax 27), .ref (ax 28), .int xNow, .int xEr, .int xTr, .int xMo, .int xFa, .int xRe])), ((ax 15), .inl (cA 5, 20, .inr (.inr (.inr (.inr gTr))))), ((ax 26), .inl (cA 0, 10, .inl gMo))] ++ va_pl L pf) t.heap ∧ va_D (va_A ([((ax 0), .inr (8, [.ref (ax 1), .ref (ax 7), .ref (ax 10), .ref (ax 11), .ref (ax 13), .ref (ax 15), .ref (ax 16), .ref (ax 21), .ref (ax 26), .ref (ax 27), .ref (ax 28), .int xNow, .int xEr, .int xTr, .int xMo, .int xFa, .int xRe])), ((ax 15), .inl (cA 5, 20, .inr (.inr (.inr (.inr gTr))))), ((ax 26), .inl (cA 0, 10, .inl gMo))] ++ va_pl L pf) sz) ([((ax 0), .inr (8, [.ref (ax 1), .ref (ax 7), .ref (ax 10), .ref (ax 11), .ref (ax 13), .ref (ax 15), .ref (ax 16), .ref (ax 21), .ref (ax 26), .ref (ax 27), .ref (ax 28), .int xNow, .int xEr, .int xTr, .int xMo, .int xFa, .int xRe])), ((ax 15), .inl (cA 5, 20, .inr (.inr (.inr (.inr gTr))))), ((ax 26), .inl (cA 0, 10, .inl gMo))] ++ va_pl L pf)) (va_A ([((ax 0), .inr (8, [.ref (ax 1), .ref (ax 7), .ref (ax 10), .ref (ax 11), .ref (ax 13), .ref (ax 15), .ref (ax 16), .ref (ax 21), .ref (ax 26), .ref (ax 27), .ref (ax 28), .int xNow, .int xEr, .int xTr, .int xMo, .int xFa, .int xRe])), ((ax 15), .inl (cA 5, 20, .inr (.inr (.inr (.inr gTr))))), ((ax 26), .inl (cA 0, 10, .inl gMo))] ++ va_pl L pf) sz)) 0 0 (va_A ([((ax 0), .inr (8, [.ref (ax 1), .ref (ax 7), .ref (ax 10), .ref (ax 11), .ref (ax 13), .ref (ax 15), .ref (ax 16), .ref (ax 21), .ref (ax 26), .ref (ax 27), .ref (ax 28), .int xNow, .int xEr, .int xTr, .int xMo, .int xFa, .int xRe])), ((ax 15), .inl (cA 5, 20, .inr (.inr (.inr (.inr gTr))))), ((ax 26), .inl (cA 0, 10, .inl gMo))] ++ va_pl L pf) sz) := by
  refine Met.ofW (cc := cX8_hung) (maxL := 4) (ret := (some .int)) (by decide) rfl ?_
  intro p e s m args below meth c s₁ B hml hv
  obtain ⟨rfl, hsz, hP, hK, hD0, hN⟩ := hv
  have hx := B.exec
  have hb := B.bytes
  have hr := B.returns
  have hts := atoms_spec (ws := wsX8_hung) B.pre
  have hown : s.vm.findClass RX8 = some m.cls := findClass_of_methodNamed B.named
  have hlocks := B.notSynchronized
  subst hsz
  have hD := hD0.self (sz := s.heap.size)
  generalize hAe : va_A ([((ax 0), .inr (8, [.ref (ax 1), .ref (ax 7), .ref (ax 10), .ref (ax 11), .ref (ax 13), .ref (ax 15), .ref (ax 16), .ref (ax 21), .ref (ax 26), .ref (ax 27), .ref (ax 28), .int xNow, .int xEr, .int xTr, .int xMo, .int xFa, .int xRe])), ((ax 15), .inl (cA 5, 20, .inr (.inr (.inr (.inr gTr))))), ((ax 26), .inl (cA 0, 10, .inl gMo))] ++ va_pl L pf) s.heap.size = A at hD ⊢
  have hA : ∀ q : Nat, s.heap.size ≤ q → A q := fun q h => by rw [← hAe]; exact Or.inr h
  have hS : va_S A s.heap s.heap [] := va_S.rf
  have hIX8 : ∀ w ∈ u_ws RX8 TX8 17, w ∈ wsX8_hung := by decide +kernel
  have hl := lv_entry ([.ref (ax 0), .int tt]) (n := 4) (Nat.le_of_ble_eq_true rfl)
  rw [lg_entry_eq]
  generalize (lg_sl ([.ref (ax 0), .int tt]) ++ List.replicate (4 - (lg_sl ([.ref (ax 0), .int tt])).length) Slot.unset).toArray = ls at hl ⊢
  have hl : lv_has ls 4 [(0, .ref (ax 0)), (1, .int tt)] := hl
  generalize hQe : MQ below _ _ _ _ _ _ = QQ
  refine lv_aload_n hx hb dX8_hung_0 rfl (lv_at hl 0 rfl) ?_
  refine lv_iload_n hx hb dX8_hung_1 rfl (lv_at hl 1 rfl) ?_
  have hPc := hP.sub (ws' := [((ax 0), .inr (8, [.ref (ax 1), .ref (ax 7), .ref (ax 10), .ref (ax 11), .ref (ax 13), .ref (ax 15), .ref (ax 16), .ref (ax 21), .ref (ax 26), .ref (ax 27), .ref (ax 28), .int xNow, .int xEr, .int xTr, .int xMo, .int xFa, .int xRe])), ((ax 15), .inl (cA 5, 20, .inr (.inr (.inr (.inr gTr)))))]) [0, 1] rfl
  have hDc := hD.sub (ws' := [((ax 0), .inr (8, [.ref (ax 1), .ref (ax 7), .ref (ax 10), .ref (ax 11), .ref (ax 13), .ref (ax 15), .ref (ax 16), .ref (ax 21), .ref (ax 26), .ref (ax 27), .ref (ax 28), .int xNow, .int xEr, .int xTr, .int xMo, .int xFa, .int xRe])), ((ax 15), .inl (cA 5, 20, .inr (.inr (.inr (.inr gTr)))))]) [0, 1] (by decide) rfl
  have hFc := va_free (wc := [((ax 0), .inr (8, [.ref (ax 1), .ref (ax 7), .ref (ax 10), .ref (ax 11), .ref (ax 13), .ref (ax 15), .ref (ax 16), .ref (ax 21), .ref (ax 26), .ref (ax 27), .ref (ax 28), .int xNow, .int xEr, .int xTr, .int xMo, .int xFa, .int xRe])), ((ax 15), .inl (cA 5, 20, .inr (.inr (.inr (.inr gTr)))))]) hD hS hA [0, 1] rfl
  refine va_callq (va_runV (As := [.int tt]) (rest := []) ⟨hx, hb, hml, hown, hts⟩ (k_X8_traitAt l dC dI cA s.heap.size ax xNow xEr xTr xMo xFa xRe gTr tt i_xNow i_xTr i_xMo) (cwV 1 hts gX8_hung_X8_traitAt rfl rfl rfl (by decide +kernel) ⟨Nat.le_of_ble_eq_true rfl, Nat.le_of_ble_eq_true rfl⟩) ⟨fun a U g mk q => by obtain ⟨q0, q1, qP, qK, qD, qN⟩ := q; exact ⟨q0, q1, qP, va_K.moved (u := U) (U := U.calling g mk a) (Vm.Alike.refl U.vm) qK, qD, qN.same rfl⟩, va_recv hK hPc (ci := 8) (q0 := 0) rfl rfl, fun U hU hW => ⟨rfl, by rw [hU], by rw [hU]; exact hPc, va_K.moved hW.alike hK, hDc.weaken (fun _ _ _ _ => trivial), hN.warm hW⟩⟩ rfl rfl hl.1 rfl (lv_room (Nat.le_of_ble_eq_true rfl)) dX8_hung_2 ⟨Nat.le_of_ble_eq_true rfl, Nat.le_of_ble_eq_true rfl⟩) hS (fun q _ h => hFc q h) hFc (fun r_1 u_2 t H1 locs ht hvm hw_3 hB hz1 hk1 hS => ?_)
  try dsimp only at hw_3 hB
  have po_4 := hw_3
  obtain ⟨hP1, hD1⟩ := hB
  rw [ht] at hP1
  obtain ⟨hP, hD⟩ := va_joinQ (wr := [((ax 26), .inl (cA 0, 10, .inl gMo))]) (w1 := [((ax 0), .inr (8, [.ref (ax 1), .ref (ax 7), .ref (ax 10), .ref (ax 11), .ref (ax 13), .ref (ax 15), .ref (ax 16), .ref (ax 21), .ref (ax 26), .ref (ax 27), .ref (ax 28), .int xNow, .int xEr, .int xTr, .int xMo, .int xFa, .int xRe])), ((ax 15), .inl (cA 5, 20, .inr (.inr (.inr (.inr gTr)))))]) hP hD [0, 1] [2] rfl rfl (by decide) (by decide) hk1 hFc hP1 hD1
  clear hz1
  generalize H1 = H at hP hS ⊢
  replace hP : va_P (dC, dI) vwCl ([((ax 26), .inl (cA 0, 10, .inl gMo)), ((ax 0), .inr (8, [.ref (ax 1), .ref (ax 7), .ref (ax 10), .ref (ax 11), .ref (ax 13), .ref (ax 15), .ref (ax 16), .ref (ax 21), .ref (ax 26), .ref (ax 27), .ref (ax 28), .int xNow, .int xEr, .int xTr, .int xMo, .int xFa, .int xRe])), ((ax 15), .inl (cA 5, 20, .inr (.inr (.inr (.inr gTr)))))] ++ va_pl L pf) H := hP
  replace hD : va_D A ([((ax 26), .inl (cA 0, 10, .inl gMo)), ((ax 0), .inr (8, [.ref (ax 1), .ref (ax 7), .ref (ax 10), .ref (ax 11), .ref (ax 13), .ref (ax 15), .ref (ax 16), .ref (ax 21), .ref (ax 26), .ref (ax 27), .ref (ax 28), .int xNow, .int xEr, .int xTr, .int xMo, .int xFa, .int xRe])), ((ax 15), .inl (cA 5, 20, .inr (.inr (.inr (.inr gTr)))))] ++ va_pl L pf) := hD
  by_cases hT_5 : 0 ≤ tt.toInt ∧ tt.toInt < xTr.toInt
  · have hrq := po_4.1 hT_5
    obtain ⟨ndv_5, hnd_5⟩ : ∃ z : Int32, z = nd tt.toNatClampNeg := ⟨_, rfl⟩
    obtain ⟨slv_5, hsl_5⟩ : ∃ z : Int32, z = sl tt.toNatClampNeg := ⟨_, rfl⟩
    obtain ⟨t_5, hte_5, hok_5⟩ := TP_at (i := tt) hTP (by omega) (by omega)
    rw [← hnd_5, ← hsl_5] at hok_5
    have hok9 := hok_5
    obtain ⟨htm_5, s_5, v_5, m_5, lf_5, lt_5, he_5, htf_5, hso_5, hvm_5, ⟨kv_5, hvf_5⟩, hmm_5, km_5, hmf_5⟩ := hok9
    rw [hte_5] at hrq
    obtain rfl : r_1 = some t_5 := hrq
    refine W.eq (g2 := F0 m 5 ls [.ref t_5]) rfl ?_
    refine lv_ifnonnull (tgt := 10) hx hb dX8_hung_5 (by decide) ?_
    refine lv_iconst (v := 0) hx hb dX8_hung_10 (by decide) ?_
    refine lv_istore_n (lv' := [(2, .int 0), (0, .ref (ax 0)), (1, .int tt)]) hx hb dX8_hung_11 rfl hl (by decide) rfl (fun ls hl => ?_)
    refine lv_iconst (v := 0) hx hb dX8_hung_12 (by decide) ?_
    refine lv_istore_n (lv' := [(3, .int 0), (2, .int 0), (0, .ref (ax 0)), (1, .int tt)]) hx hb dX8_hung_13 rfl hl (by decide) rfl (fun ls hl => ?_)
    have loop14_6 : ∀ (n : Nat) (i3 : Int32) (n2 : Int32) (H : Heap) (locs : List Loc) (ls : Array Slot), 10 - i3.toInt < (n : Int) → (0 ≤ i3.toInt ∧ i3.toInt ≤ 10) → (0 ≤ n2.toInt ∧ n2.toInt ≤ 10) → (n2.toInt ≤ i3.toInt ∧ i3.toInt ≤ xMo.toInt) → (n2.toInt = (hgc gMo tt.toInt.toNat i3.toInt.toNat : Int)) → va_P (dC, dI) vwCl ([((ax 26), .inl (cA 0, 10, .inl gMo)), ((ax 0), .inr (8, [.ref (ax 1), .ref (ax 7), .ref (ax 10), .ref (ax 11), .ref (ax 13), .ref (ax 15), .ref (ax 16), .ref (ax 21), .ref (ax 26), .ref (ax 27), .ref (ax 28), .int xNow, .int xEr, .int xTr, .int xMo, .int xFa, .int xRe])), ((ax 15), .inl (cA 5, 20, .inr (.inr (.inr (.inr gTr)))))] ++ va_pl L pf) H → va_D A ([((ax 26), .inl (cA 0, 10, .inl gMo)), ((ax 0), .inr (8, [.ref (ax 1), .ref (ax 7), .ref (ax 10), .ref (ax 11), .ref (ax 13), .ref (ax 15), .ref (ax 16), .ref (ax 21), .ref (ax 26), .ref (ax 27), .ref (ax 28), .int xNow, .int xEr, .int xTr, .int xMo, .int xFa, .int xRe])), ((ax 15), .inl (cA 5, 20, .inr (.inr (.inr (.inr gTr)))))] ++ va_pl L pf) → va_S A s.heap H locs → lv_has ls 4 [(3, .int i3), (2, .int n2), (0, .ref (ax 0)), (1, .int tt)] → W p l e ({ frames := 1, cells := 0, slots := 0, locals := 21 }) s m ([.ref (ax 0), .int tt] : List Value).toArray below meth c H locs 0 0 QQ (F0 m 14 ls []) := by
      intro n
      induction n with
      | zero => intro i3 n2 H locs ls hme hv0_14 hv1_14 hv2_14 hv3_14; exfalso; omega
      | succ n ih_14 =>
        intro i3 n2 H locs ls hme_14 hv0_14 hv1_14 hv2_14 hv3_14 hP hD hS hl
        refine lv_iload_n hx hb dX8_hung_14 rfl (lv_at hl 0 rfl) ?_
        refine lv_aload_n hx hb dX8_hung_15 rfl (lv_at hl 2 rfl) ?_
        refine va_get (D := (dC, dI)) (ci := 8) (v := .int xMo) (C := RX8) (T := TX8) (N := 17) hx hb hts hIX8 hown hK hP 1 rfl rfl 14 (by decide) (hts (.fieldLink RX8 250 "TraitHouse" "modelsThere" "I") (by decide +kernel)) (fun _ h9 => h9) rfl dX8_hung_16 ?_
        refine lv_icmp_ge (tgt := 44) hx hb dX8_hung_19 (by decide) (fun c_7 => ?_) (fun c_7 => ?_)
        · have dc_7 : xMo.toInt ≤ i3.toInt := jI_le c_7 rfl rfl
          refine lv_iload_n hx hb dX8_hung_44 rfl (lv_at hl 1 rfl) ?_
          have hP9 := hP.part (cx := [((ax 0), .inr (8, [.ref (ax 1), .ref (ax 7), .ref (ax 10), .ref (ax 11), .ref (ax 13), .ref (ax 15), .ref (ax 16), .ref (ax 21), .ref (ax 26), .ref (ax 27), .ref (ax 28), .int xNow, .int xEr, .int xTr, .int xMo, .int xFa, .int xRe])), ((ax 15), .inl (cA 5, 20, .inr (.inr (.inr (.inr gTr))))), ((ax 26), .inl (cA 0, 10, .inl gMo))]) [1, 2, 0] rfl
          have hD9 := hD.part (cx := [((ax 0), .inr (8, [.ref (ax 1), .ref (ax 7), .ref (ax 10), .ref (ax 11), .ref (ax 13), .ref (ax 15), .ref (ax 16), .ref (ax 21), .ref (ax 26), .ref (ax 27), .ref (ax 28), .int xNow, .int xEr, .int xTr, .int xMo, .int xFa, .int xRe])), ((ax 15), .inl (cA 5, 20, .inr (.inr (.inr (.inr gTr))))), ((ax 26), .inl (cA 0, 10, .inl gMo))]) [1, 2, 0] (by decide) rfl
          subst hQe
          have hans : (n2 : Int32).toInt = n2.toInt := rfl
          have hpost : ((0 ≤ tt.toInt ∧ tt.toInt < xTr.toInt → (n2 : Int32).toInt = (hgc gMo tt.toInt.toNat xMo.toInt.toNat : Int)) ∧ (¬ (0 ≤ tt.toInt ∧ tt.toInt < xTr.toInt) → (n2 : Int32).toInt = (-1))) := ⟨fun _ => (by have h9 := hv3_14; rw [show i3.toInt.toNat = xMo.toInt.toNat by omega] at h9; exact h9), fun h => by exfalso; omega⟩
          exact W.iret (v := n2) hx hb hr (fun t ht hW => ⟨⟨n2, (), rfl, hpost, by rw [ht]; exact hP9, hD9⟩, hS.F ht⟩) hS.2.2 dX8_hung_45
        · have dc_7 : i3.toInt < xMo.toInt := jI_nle c_7 rfl rfl
          refine lv_aload_n hx hb dX8_hung_22 rfl (lv_at hl 2 rfl) ?_
          refine va_get (D := (dC, dI)) (ci := 8) (v := .ref (ax 26)) (C := RX8) (T := TX8) (N := 17) hx hb hts hIX8 hown hK hP 1 rfl rfl 8 (by decide) (hts (.fieldLink RX8 65 "TraitHouse" "models" "[I") (by decide +kernel)) (fun _ h9 => h9) rfl dX8_hung_23 ?_
          refine lv_iload_n hx hb dX8_hung_26 rfl (lv_at hl 0 rfl) ?_
          have h_8 : vp_in i3 10 := (vp_in_iff.mpr ⟨by omega, by omega⟩)
          refine va_iald hx hb hK hP 0 0 rfl rfl h_8 dX8_hung_27 ?_
          refine lv_topi (fun x_9 ex_9 => ?_)
          refine lv_iload_n hx hb dX8_hung_28 rfl (lv_at hl 3 rfl) ?_
          have hPc := hP.sub (ws' := []) [] rfl
          have hDc := hD.sub (ws' := []) [] (by decide) rfl
          have hFc := va_free (wc := []) hD hS hA [] rfl
          refine va_calli (va_runS (As := [.int x_9, .int tt]) (rest := []) ⟨hx, hb, hml, hown, hts⟩ (k_X8_hasBit l dC dI cA H.size x_9 tt (by omega)) (va_cwS 2 hts gX8_hung_X8_hasBit rfl rfl rfl (by decide +kernel) ⟨Nat.le_of_ble_eq_true rfl, Nat.le_of_ble_eq_true rfl⟩) ⟨fun a U g mk q => by obtain ⟨q0, q1, qP, qK, qD, qN⟩ := q; exact ⟨q0, q1, qP, va_K.moved (u := U) (U := U.calling g mk a) (Vm.Alike.refl U.vm) qK, qD, qN.same rfl⟩, fun U hU hW => ⟨rfl, by rw [hU], by rw [hU]; exact hPc, va_K.moved hW.alike hK, hDc.weaken (fun _ _ _ _ => trivial), hN.warm hW⟩⟩ rfl rfl hl.1 rfl (lv_room (Nat.le_of_ble_eq_true rfl)) dX8_hung_29 ⟨Nat.le_of_ble_eq_true rfl, Nat.le_of_ble_eq_true rfl⟩) hS (fun q _ h => hFc q h) hFc (fun r_10 u_11 t H1 locs ht hvm hw_12 hB hz1 hk1 hS => ?_)
          try dsimp only at hw_12 hB
          obtain ⟨po_13, tb_14⟩ := hw_12
          obtain ⟨hP1, hD1⟩ := hB
          rw [ht] at hP1
          obtain ⟨hP, hD⟩ := va_joinQ (wr := [((ax 26), .inl (cA 0, 10, .inl gMo)), ((ax 0), .inr (8, [.ref (ax 1), .ref (ax 7), .ref (ax 10), .ref (ax 11), .ref (ax 13), .ref (ax 15), .ref (ax 16), .ref (ax 21), .ref (ax 26), .ref (ax 27), .ref (ax 28), .int xNow, .int xEr, .int xTr, .int xMo, .int xFa, .int xRe])), ((ax 15), .inl (cA 5, 20, .inr (.inr (.inr (.inr gTr)))))]) (w1 := []) hP hD [] [0, 1, 2] rfl rfl (by decide) (by decide) hk1 hFc hP1 hD1
          clear hz1
          generalize H1 = H at hP hS ⊢
          replace hP : va_P (dC, dI) vwCl ([((ax 26), .inl (cA 0, 10, .inl gMo)), ((ax 0), .inr (8, [.ref (ax 1), .ref (ax 7), .ref (ax 10), .ref (ax 11), .ref (ax 13), .ref (ax 15), .ref (ax 16), .ref (ax 21), .ref (ax 26), .ref (ax 27), .ref (ax 28), .int xNow, .int xEr, .int xTr, .int xMo, .int xFa, .int xRe])), ((ax 15), .inl (cA 5, 20, .inr (.inr (.inr (.inr gTr)))))] ++ va_pl L pf) H := hP
          replace hD : va_D A ([((ax 26), .inl (cA 0, 10, .inl gMo)), ((ax 0), .inr (8, [.ref (ax 1), .ref (ax 7), .ref (ax 10), .ref (ax 11), .ref (ax 13), .ref (ax 15), .ref (ax 16), .ref (ax 21), .ref (ax 26), .ref (ax 27), .ref (ax 28), .int xNow, .int xEr, .int xTr, .int xMo, .int xFa, .int xRe])), ((ax 15), .inl (cA 5, 20, .inr (.inr (.inr (.inr gTr)))))] ++ va_pl L pf) := hD
          refine lv_if_eq (tgt := 38) hx hb dX8_hung_32 (by decide) (fun c_15 => ?_) (fun c_15 => ?_)
          · have dc_15 : r_10.toInt = 0 := jI_eq c_15 rfl (by decide)
            obtain ⟨x_16, ex_16⟩ : ∃ y : Int32, y = i3 + 1 := ⟨_, rfl⟩
            have dx_16 : x_16.toInt = i3.toInt + 1 := by rw [ex_16]; exact jI_add rfl (by decide) (by omega) (by omega)
            refine lv_iinc (v := x_16) (lv' := [(3, .int x_16), (2, .int n2), (0, .ref (ax 0)), (1, .int tt)]) hx hb dX8_hung_38 hl (k := 0) rfl (by rw [ex_16]; rfl) (by decide) rfl (fun ls hl => ?_)
            refine lv_goto (tgt := 14) hx hb dX8_hung_41 (by decide) ?_
            exact ih_14 x_16 n2 _ _ ls (by omega) (by omega) hv1_14 (by omega) (hgc_0 hv3_14 (by omega) ex_9 (fun h => absurd (tb_14.mpr h) (by omega)) (by omega) (by omega)) (hP.part (cx := [((ax 26), .inl (cA 0, 10, .inl gMo)), ((ax 0), .inr (8, [.ref (ax 1), .ref (ax 7), .ref (ax 10), .ref (ax 11), .ref (ax 13), .ref (ax 15), .ref (ax 16), .ref (ax 21), .ref (ax 26), .ref (ax 27), .ref (ax 28), .int xNow, .int xEr, .int xTr, .int xMo, .int xFa, .int xRe])), ((ax 15), .inl (cA 5, 20, .inr (.inr (.inr (.inr gTr)))))]) [0, 1, 2] rfl) (hD.part (cx := [((ax 26), .inl (cA 0, 10, .inl gMo)), ((ax 0), .inr (8, [.ref (ax 1), .ref (ax 7), .ref (ax 10), .ref (ax 11), .ref (ax 13), .ref (ax 15), .ref (ax 16), .ref (ax 21), .ref (ax 26), .ref (ax 27), .ref (ax 28), .int xNow, .int xEr, .int xTr, .int xMo, .int xFa, .int xRe])), ((ax 15), .inl (cA 5, 20, .inr (.inr (.inr (.inr gTr)))))]) [0, 1, 2] (by decide) rfl) hS (lv_sub hl [0, 1, 2, 3] rfl)
          · have dc_15 : ¬ r_10.toInt = 0 := jI_ne c_15 rfl (by decide)
            obtain ⟨x_17, ex_17⟩ : ∃ y : Int32, y = n2 + 1 := ⟨_, rfl⟩
            have dx_17 : x_17.toInt = n2.toInt + 1 := by rw [ex_17]; exact jI_add rfl (by decide) (by omega) (by omega)
            refine lv_iinc (v := x_17) (lv' := [(2, .int x_17), (3, .int i3), (0, .ref (ax 0)), (1, .int tt)]) hx hb dX8_hung_35 hl (k := 1) rfl (by rw [ex_17]; rfl) (by decide) rfl (fun ls hl => ?_)
            obtain ⟨x_18, ex_18⟩ : ∃ y : Int32, y = i3 + 1 := ⟨_, rfl⟩
            have dx_18 : x_18.toInt = i3.toInt + 1 := by rw [ex_18]; exact jI_add rfl (by decide) (by omega) (by omega)
            refine lv_iinc (v := x_18) (lv' := [(3, .int x_18), (2, .int x_17), (0, .ref (ax 0)), (1, .int tt)]) hx hb dX8_hung_38 hl (k := 1) rfl (by rw [ex_18]; rfl) (by decide) rfl (fun ls hl => ?_)
            refine lv_goto (tgt := 14) hx hb dX8_hung_41 (by decide) ?_
            exact ih_14 x_18 x_17 _ _ ls (by omega) (by omega) (by omega) (by omega) (hgc_1 hv3_14 (by omega) ex_9 (tb_14.mp (by omega)) (by omega) (by omega)) (hP.part (cx := [((ax 26), .inl (cA 0, 10, .inl gMo)), ((ax 0), .inr (8, [.ref (ax 1), .ref (ax 7), .ref (ax 10), .ref (ax 11), .ref (ax 13), .ref (ax 15), .ref (ax 16), .ref (ax 21), .ref (ax 26), .ref (ax 27), .ref (ax 28), .int xNow, .int xEr, .int xTr, .int xMo, .int xFa, .int xRe])), ((ax 15), .inl (cA 5, 20, .inr (.inr (.inr (.inr gTr)))))]) [0, 1, 2] rfl) (hD.part (cx := [((ax 26), .inl (cA 0, 10, .inl gMo)), ((ax 0), .inr (8, [.ref (ax 1), .ref (ax 7), .ref (ax 10), .ref (ax 11), .ref (ax 13), .ref (ax 15), .ref (ax 16), .ref (ax 21), .ref (ax 26), .ref (ax 27), .ref (ax 28), .int xNow, .int xEr, .int xTr, .int xMo, .int xFa, .int xRe])), ((ax 15), .inl (cA 5, 20, .inr (.inr (.inr (.inr gTr)))))]) [0, 1, 2] (by decide) rfl) hS (lv_sub hl [0, 1, 2, 3] rfl)
    have hk_19 : (0 : Int32).toInt = 0 := by decide
    have hk_20 : (0 : Int32).toInt = 0 := by decide
    exact loop14_6 (Int.toNat (10 - (0 : Int32).toInt) + 1) 0 0 _ _ ls (by omega) (by omega) (by omega) (by omega) (rfl) hP hD hS (lv_sub hl [0, 1, 2, 3] rfl)
  · have hrq := po_4.2 hT_5
    obtain rfl : r_1 = none := hrq
    refine W.eq (g2 := F0 m 5 ls [.null]) rfl ?_
    refine lv_ifnonnullN hx hb dX8_hung_5 ?_
    refine lv_iconst (v := (-1)) hx hb dX8_hung_8 (by decide) ?_
    have hP9 := hP.part (cx := [((ax 0), .inr (8, [.ref (ax 1), .ref (ax 7), .ref (ax 10), .ref (ax 11), .ref (ax 13), .ref (ax 15), .ref (ax 16), .ref (ax 21), .ref (ax 26), .ref (ax 27), .ref (ax 28), .int xNow, .int xEr, .int xTr, .int xMo, .int xFa, .int xRe])), ((ax 15), .inl (cA 5, 20, .inr (.inr (.inr (.inr gTr))))), ((ax 26), .inl (cA 0, 10, .inl gMo))]) [1, 2, 0] rfl
    have hD9 := hD.part (cx := [((ax 0), .inr (8, [.ref (ax 1), .ref (ax 7), .ref (ax 10), .ref (ax 11), .ref (ax 13), .ref (ax 15), .ref (ax 16), .ref (ax 21), .ref (ax 26), .ref (ax 27), .ref (ax 28), .int xNow, .int xEr, .int xTr, .int xMo, .int xFa, .int xRe])), ((ax 15), .inl (cA 5, 20, .inr (.inr (.inr (.inr gTr))))), ((ax 26), .inl (cA 0, 10, .inl gMo))]) [1, 2, 0] (by decide) rfl
    subst hQe
    have hans : ((-1) : Int32).toInt = (-1) := (by decide)
    have hpost : ((0 ≤ tt.toInt ∧ tt.toInt < xTr.toInt → ((-1) : Int32).toInt = (hgc gMo tt.toInt.toNat xMo.toInt.toNat : Int)) ∧ (¬ (0 ≤ tt.toInt ∧ tt.toInt < xTr.toInt) → ((-1) : Int32).toInt = (-1))) := ⟨fun h => by exfalso; omega, fun _ => by omega⟩
    exact W.iret (v := (-1)) hx hb hr (fun t ht hW => ⟨⟨(-1), (), rfl, hpost, by rw [ht]; exact hP9, hD9⟩, hS.F ht⟩) hS.2.2 dX8_hung_9

set_option maxHeartbeats 8000000 in
set_option maxRecDepth 100000 in
theorem k_X8_model (l : Launch) (dC : Nat → ClassId) (dI : Nat → Nat → Nat) (cA : Nat → ClassId) (sz : Nat) (ax : Nat → Nat) (xNow : Int32) (xEr : Int32) (xTr : Int32) (xMo : Int32) (xFa : Int32) (xRe : Int32) (gTr : Nat → Option Nat) (gMo : Nat → Int32) (L : List Nat) (pf : Nat → va_E) (a : Int32) (nd : Nat → Int32) (sl : Nat → Int32) (i_xNow : 0 ≤ xNow.toInt ∧ xNow.toInt ≤ 100000) (i_xTr : 0 ≤ xTr.toInt ∧ xTr.toInt ≤ 20) (i_xMo : 0 ≤ xMo.toInt ∧ xMo.toInt ≤ 10) (hTP : TP cA xTr gTr L pf nd sl) : Met l yX8_model wsX8_model ({ frames := 2, cells := 0, slots := 0, locals := 45 }) (va_Pc [.ref (ax 0), .int a] (fun U => U.heap.size = sz ∧ va_P (dC, dI) vwCl ([((ax 0), .inr (8, [.ref (ax 1), .ref (ax 7), .ref (ax 10), .ref (ax 11), .ref (ax 13), .ref (ax 15), .ref (ax 16), .ref (ax 21), .ref (ax 26), .ref (ax 27), .ref (ax 28), .int xNow, .int xEr, .int xTr, .int xMo, .int xFa, .int xRe])), ((ax 15), .inl (cA 5, 20, .inr (.inr (.inr (.inr gTr))))), ((ax 26), .inl (cA 0, 10, .inl gMo))] ++ va_pl L pf) U.heap ∧ va_K (dC, dI) vwCl (tyL cA) U ∧ va_D (fun _ => True) ([((ax 0), .inr (8, [.ref (ax 1), .ref (ax 7), .ref (ax 10), .ref (ax 11), .ref (ax 13), .ref (ax 15), .ref (ax 16), .ref (ax 21), .ref (ax 26), .ref (ax 27), .ref (ax 28), .int xNow, .int xEr, .int xTr, .int xMo, .int xFa, .int xRe])), ((ax 15), .inl (cA 5, 20, .inr (.inr (.inr (.inr gTr))))), ((ax 26), .inl (cA 0, 10, .inl gMo))] ++ va_pl L pf) ∧ nw_ok U)) (va_Qi (fun (r : Int32) (u : Int32 × Int32 × (Nat → Int32)) => (0 ≤ u.2.1.toInt ∧ u.2.1.toInt ≤ 10) ∧ ((¬ (0 ≤ a.toInt ∧ a.toInt < 2 ^ xTr.toInt.toNat) → r.toInt = (-1) ∧ u.2.1.toInt = xMo.toInt ∧ u.2.2 = gMo) ∧ ((0 ≤ a.toInt ∧ a.toInt < 2 ^ xTr.toInt.toNat) ∧ 10 ≤ xMo.toInt → r.toInt = (-5) ∧ u.2.1.toInt = xMo.toInt ∧ u.2.2 = gMo) ∧ ((0 ≤ a.toInt ∧ a.toInt < 2 ^ xTr.toInt.toNat) ∧ xMo.toInt < 10 → r.toInt = xMo.toInt ∧ u.2.1.toInt = xMo.toInt + 1 ∧ u.2.2 = upd gMo xMo.toNatClampNeg (nds nd a xTr.toInt.toNat)))) (fun (u : Int32 × Int32 × (Nat → Int32)) (t : State) => va_P (dC, dI) vwCl ([((ax 0), .inr (8, [.ref (ax 1), .ref (ax 7), .ref (ax 10), .ref (ax 11), .ref (ax 13), .ref (ax 15), .ref (ax 16), .ref (ax 21), .ref (ax 26), .ref (ax 27), .ref (ax 28), .int xNow, .int xEr, .int xTr, .int u.2.1, .int xFa, .int u.1])), ((ax 15), .inl (cA 5, 20, .inr (.inr (.inr (.inr gTr))))), ((ax 26), .inl (cA 0, 10, .inl u.2.2))] ++ va_pl L pf) t.heap ∧ va_D (va_A ([((ax 0), .inr (8, [.ref (ax 1), .ref (ax 7), .ref (ax 10), .ref (ax 11), .ref (ax 13), .ref (ax 15), .ref (ax 16), .ref (ax 21), .ref (ax 26), .ref (ax 27), .ref (ax 28), .int xNow, .int xEr, .int xTr, .int xMo, .int xFa, .int xRe])), ((ax 15), .inl (cA 5, 20, .inr (.inr (.inr (.inr gTr))))), ((ax 26), .inl (cA 0, 10, .inl gMo))] ++ va_pl L pf) sz) ([((ax 0), .inr (8, [.ref (ax 1), .ref (ax 7), .ref (ax 10), .ref (ax 11), .ref (ax 13), .ref (ax 15), .ref (ax 16), .ref (ax 21), .ref (ax 26), .ref (ax 27), .ref (ax 28), .int xNow, .int xEr, .int xTr, .int u.2.1, .int xFa, .int u.1])), ((ax 15), .inl (cA 5, 20, .inr (.inr (.inr (.inr gTr))))), ((ax 26), .inl (cA 0, 10, .inl u.2.2))] ++ va_pl L pf)) (va_A ([((ax 0), .inr (8, [.ref (ax 1), .ref (ax 7), .ref (ax 10), .ref (ax 11), .ref (ax 13), .ref (ax 15), .ref (ax 16), .ref (ax 21), .ref (ax 26), .ref (ax 27), .ref (ax 28), .int xNow, .int xEr, .int xTr, .int xMo, .int xFa, .int xRe])), ((ax 15), .inl (cA 5, 20, .inr (.inr (.inr (.inr gTr))))), ((ax 26), .inl (cA 0, 10, .inl gMo))] ++ va_pl L pf) sz)) 0 0 (va_A ([((ax 0), .inr (8, [.ref (ax 1), .ref (ax 7), .ref (ax 10), .ref (ax 11), .ref (ax 13), .ref (ax 15), .ref (ax 16), .ref (ax 21), .ref (ax 26), .ref (ax 27), .ref (ax 28), .int xNow, .int xEr, .int xTr, .int xMo, .int xFa, .int xRe])), ((ax 15), .inl (cA 5, 20, .inr (.inr (.inr (.inr gTr))))), ((ax 26), .inl (cA 0, 10, .inl gMo))] ++ va_pl L pf) sz) := by
  refine Met.ofW (cc := cX8_model) (maxL := 2) (ret := (some .int)) (by decide) rfl ?_
  intro p e s m args below meth c s₁ B hml hv
  obtain ⟨rfl, hsz, hP, hK, hD0, hN⟩ := hv
  have hx := B.exec
  have hb := B.bytes
  have hr := B.returns
  have hts := atoms_spec (ws := wsX8_model) B.pre
  have hown : s.vm.findClass RX8 = some m.cls := findClass_of_methodNamed B.named
  have hlocks := B.notSynchronized
  subst hsz
  have hD := hD0.self (sz := s.heap.size)
  generalize hAe : va_A ([((ax 0), .inr (8, [.ref (ax 1), .ref (ax 7), .ref (ax 10), .ref (ax 11), .ref (ax 13), .ref (ax 15), .ref (ax 16), .ref (ax 21), .ref (ax 26), .ref (ax 27), .ref (ax 28), .int xNow, .int xEr, .int xTr, .int xMo, .int xFa, .int xRe])), ((ax 15), .inl (cA 5, 20, .inr (.inr (.inr (.inr gTr))))), ((ax 26), .inl (cA 0, 10, .inl gMo))] ++ va_pl L pf) s.heap.size = A at hD ⊢
  have hA : ∀ q : Nat, s.heap.size ≤ q → A q := fun q h => by rw [← hAe]; exact Or.inr h
  have hS : va_S A s.heap s.heap [] := va_S.rf
  have hIX8 : ∀ w ∈ u_ws RX8 TX8 17, w ∈ wsX8_model := by decide +kernel
  have hl := lv_entry ([.ref (ax 0), .int a]) (n := 2) (Nat.le_of_ble_eq_true rfl)
  rw [lg_entry_eq]
  generalize (lg_sl ([.ref (ax 0), .int a]) ++ List.replicate (2 - (lg_sl ([.ref (ax 0), .int a])).length) Slot.unset).toArray = ls at hl ⊢
  have hl : lv_has ls 2 [(0, .ref (ax 0)), (1, .int a)] := hl
  generalize hQe : MQ below _ _ _ _ _ _ = QQ
  refine lv_iload_n hx hb dX8_model_0 rfl (lv_at hl 1 rfl) ?_
  refine lv_aload_n hx hb dX8_model_1 rfl (lv_at hl 0 rfl) ?_
  refine va_get (D := (dC, dI)) (ci := 8) (v := .int xTr) (C := RX8) (T := TX8) (N := 17) hx hb hts hIX8 hown hK hP 0 rfl rfl 13 (by decide) (hts (.fieldLink RX8 148 "TraitHouse" "traitsThere" "I") (by decide +kernel)) (fun _ h9 => h9) rfl dX8_model_2 ?_
  obtain ⟨x_1, ex_1⟩ : ∃ y : Int32, y = (a.toUInt32 >>> (xTr.toUInt32 &&& Int32.toUInt32 31)).toInt32 := ⟨_, rfl⟩
  refine lv_iushr (v := x_1) hx hb dX8_model_5 ex_1.symm ?_
  have dx_1 : x_1.toInt = 0 ↔ (0 ≤ a.toInt ∧ a.toInt < 2 ^ xTr.toInt.toNat) := ushr_0 ex_1 (by omega) (by omega)
  refine lv_if_eq (tgt := 15) hx hb dX8_model_6 (by decide) (fun c_2 => ?_) (fun c_2 => ?_)
  · have dc_2 : x_1.toInt = 0 := jI_eq c_2 rfl (by decide)
    refine lv_aload_n hx hb dX8_model_15 rfl (lv_at hl 0 rfl) ?_
    refine va_get (D := (dC, dI)) (ci := 8) (v := .int xMo) (C := RX8) (T := TX8) (N := 17) hx hb hts hIX8 hown hK hP 0 rfl rfl 14 (by decide) (hts (.fieldLink RX8 250 "TraitHouse" "modelsThere" "I") (by decide +kernel)) (fun _ h9 => h9) rfl dX8_model_16 ?_
    refine lv_bipush (v := 10) hx hb dX8_model_19 (by decide) ?_
    refine lv_icmp_lt (tgt := 31) hx hb dX8_model_21 (by decide) (fun c_3 => ?_) (fun c_3 => ?_)
    · have dc_3 : xMo.toInt < 10 := jI_lt c_3 rfl (by decide)
      refine lv_aload_n hx hb dX8_model_31 rfl (lv_at hl 0 rfl) ?_
      refine va_get (D := (dC, dI)) (ci := 8) (v := .ref (ax 26)) (C := RX8) (T := TX8) (N := 17) hx hb hts hIX8 hown hK hP 0 rfl rfl 8 (by decide) (hts (.fieldLink RX8 65 "TraitHouse" "models" "[I") (by decide +kernel)) (fun _ h9 => h9) rfl dX8_model_32 ?_
      refine lv_aload_n hx hb dX8_model_35 rfl (lv_at hl 0 rfl) ?_
      refine va_get (D := (dC, dI)) (ci := 8) (v := .int xMo) (C := RX8) (T := TX8) (N := 17) hx hb hts hIX8 hown hK hP 0 rfl rfl 14 (by decide) (hts (.fieldLink RX8 250 "TraitHouse" "modelsThere" "I") (by decide +kernel)) (fun _ h9 => h9) rfl dX8_model_36 ?_
      refine lv_aload_n hx hb dX8_model_39 rfl (lv_at hl 0 rfl) ?_
      refine lv_iload_n hx hb dX8_model_40 rfl (lv_at hl 1 rfl) ?_
      have hPc := hP.part (cx := [((ax 0), .inr (8, [.ref (ax 1), .ref (ax 7), .ref (ax 10), .ref (ax 11), .ref (ax 13), .ref (ax 15), .ref (ax 16), .ref (ax 21), .ref (ax 26), .ref (ax 27), .ref (ax 28), .int xNow, .int xEr, .int xTr, .int xMo, .int xFa, .int xRe])), ((ax 15), .inl (cA 5, 20, .inr (.inr (.inr (.inr gTr)))))]) [0, 1] rfl
      have hDc := hD.part (cx := [((ax 0), .inr (8, [.ref (ax 1), .ref (ax 7), .ref (ax 10), .ref (ax 11), .ref (ax 13), .ref (ax 15), .ref (ax 16), .ref (ax 21), .ref (ax 26), .ref (ax 27), .ref (ax 28), .int xNow, .int xEr, .int xTr, .int xMo, .int xFa, .int xRe])), ((ax 15), .inl (cA 5, 20, .inr (.inr (.inr (.inr gTr)))))]) [0, 1] (by decide) rfl
      have hFc := va_freeP (cx := [((ax 0), .inr (8, [.ref (ax 1), .ref (ax 7), .ref (ax 10), .ref (ax 11), .ref (ax 13), .ref (ax 15), .ref (ax 16), .ref (ax 21), .ref (ax 26), .ref (ax 27), .ref (ax 28), .int xNow, .int xEr, .int xTr, .int xMo, .int xFa, .int xRe])), ((ax 15), .inl (cA 5, 20, .inr (.inr (.inr (.inr gTr)))))]) hD hS hA [0, 1] rfl
      refine va_calli (va_runV (As := [.int a]) (rest := [.int xMo, .ref (ax 26)]) ⟨hx, hb, hml, hown, hts⟩ (k_X8_needsOf l dC dI cA s.heap.size ax xNow xEr xTr xMo xFa xRe gTr L pf a nd sl i_xNow i_xTr i_xMo hTP) (cwV 1 hts gX8_model_X8_needsOf rfl rfl rfl (by decide +kernel) ⟨Nat.le_of_ble_eq_true rfl, Nat.le_of_ble_eq_true rfl⟩) ⟨fun a U g mk q => by obtain ⟨q0, q1, qP, qK, qD, qN⟩ := q; exact ⟨q0, q1, qP, va_K.moved (u := U) (U := U.calling g mk a) (Vm.Alike.refl U.vm) qK, qD, qN.same rfl⟩, va_recv hK hPc (ci := 8) (q0 := 0) rfl rfl, fun U hU hW => ⟨rfl, by rw [hU], by rw [hU]; exact hPc, va_K.moved hW.alike hK, hDc.weaken (fun _ _ _ _ => trivial), hN.warm hW⟩⟩ rfl rfl hl.1 rfl (lv_room (Nat.le_of_ble_eq_true rfl)) dX8_model_41 ⟨Nat.le_of_ble_eq_true rfl, Nat.le_of_ble_eq_true rfl⟩) hS (fun q _ h => hFc q h) hFc (fun r_4 u_5 t H1 locs ht hvm hw_6 hB hz1 hk1 hS => ?_)
      try dsimp only at hw_6 hB
      have po_7 := hw_6
      obtain ⟨hP1, hD1⟩ := hB
      rw [ht] at hP1
      obtain ⟨hP, hD⟩ := va_joinP (wr := [((ax 26), .inl (cA 0, 10, .inl gMo))]) (rx := [((ax 0), .inr (8, [.ref (ax 1), .ref (ax 7), .ref (ax 10), .ref (ax 11), .ref (ax 13), .ref (ax 15), .ref (ax 16), .ref (ax 21), .ref (ax 26), .ref (ax 27), .ref (ax 28), .int xNow, .int xEr, .int xTr, .int xMo, .int xFa, .int xRe])), ((ax 15), .inl (cA 5, 20, .inr (.inr (.inr (.inr gTr)))))]) (pl1 := va_pl L pf) hP hD [0, 1] [2] rfl rfl (by decide) (by decide) hk1 hFc hP1 hD1
      clear hz1
      generalize H1 = H at hP hS ⊢
      replace hP : va_P (dC, dI) vwCl ([((ax 26), .inl (cA 0, 10, .inl gMo)), ((ax 0), .inr (8, [.ref (ax 1), .ref (ax 7), .ref (ax 10), .ref (ax 11), .ref (ax 13), .ref (ax 15), .ref (ax 16), .ref (ax 21), .ref (ax 26), .ref (ax 27), .ref (ax 28), .int xNow, .int xEr, .int xTr, .int xMo, .int xFa, .int xRe])), ((ax 15), .inl (cA 5, 20, .inr (.inr (.inr (.inr gTr)))))] ++ va_pl L pf) H := hP
      replace hD : va_D A ([((ax 26), .inl (cA 0, 10, .inl gMo)), ((ax 0), .inr (8, [.ref (ax 1), .ref (ax 7), .ref (ax 10), .ref (ax 11), .ref (ax 13), .ref (ax 15), .ref (ax 16), .ref (ax 21), .ref (ax 26), .ref (ax 27), .ref (ax 28), .int xNow, .int xEr, .int xTr, .int xMo, .int xFa, .int xRe])), ((ax 15), .inl (cA 5, 20, .inr (.inr (.inr (.inr gTr)))))] ++ va_pl L pf) := hD
      have h_8 : vp_in xMo 10 := (vp_in_iff.mpr ⟨by omega, by omega⟩)
      refine va_iast hx hb hK hP hD hS 0 0 rfl rfl h_8 dX8_model_44 (fun H locs hP hD hS => ?_)
      replace hP : va_P (dC, dI) vwCl ([((ax 26), .inl (cA 0, 10, .inl (upd gMo xMo.toNatClampNeg r_4))), ((ax 0), .inr (8, [.ref (ax 1), .ref (ax 7), .ref (ax 10), .ref (ax 11), .ref (ax 13), .ref (ax 15), .ref (ax 16), .ref (ax 21), .ref (ax 26), .ref (ax 27), .ref (ax 28), .int xNow, .int xEr, .int xTr, .int xMo, .int xFa, .int xRe])), ((ax 15), .inl (cA 5, 20, .inr (.inr (.inr (.inr gTr)))))] ++ va_pl L pf) H := hP
      replace hD : va_D A ([((ax 26), .inl (cA 0, 10, .inl (upd gMo xMo.toNatClampNeg r_4))), ((ax 0), .inr (8, [.ref (ax 1), .ref (ax 7), .ref (ax 10), .ref (ax 11), .ref (ax 13), .ref (ax 15), .ref (ax 16), .ref (ax 21), .ref (ax 26), .ref (ax 27), .ref (ax 28), .int xNow, .int xEr, .int xTr, .int xMo, .int xFa, .int xRe])), ((ax 15), .inl (cA 5, 20, .inr (.inr (.inr (.inr gTr)))))] ++ va_pl L pf) := hD
      obtain ⟨g_9, eg_9⟩ : ∃ g : Nat → Int32, g = upd gMo xMo.toNatClampNeg r_4 := ⟨_, rfl⟩
      rw [← eg_9] at hP hD
      refine lv_aload_n hx hb dX8_model_45 rfl (lv_at hl 0 rfl) ?_
      refine lv_dup hx hb dX8_model_46 rfl ?_
      refine va_get (D := (dC, dI)) (ci := 8) (v := .int xMo) (C := RX8) (T := TX8) (N := 17) hx hb hts hIX8 hown hK hP 1 rfl rfl 14 (by decide) (hts (.fieldLink RX8 250 "TraitHouse" "modelsThere" "I") (by decide +kernel)) (fun _ h9 => h9) rfl dX8_model_47 ?_
      refine lv_iconst (v := 1) hx hb dX8_model_50 (by decide) ?_
      refine lv_iadd hx hb dX8_model_51 ?_
      refine lv_topi (fun x_10 ex_10 => ?_)
      have dx_10 : x_10.toInt = xMo.toInt + 1 := by rw [ex_10]; exact jI_add rfl (by decide) (by omega) (by omega)
      refine va_put (D := (dC, dI)) (ci := 8) (v := .int x_10) (ty := .int) (C := RX8) (T := TX8) (N := 17) hx hb hts hIX8 tyX8 tyX8_ok nmX8 hown hK hP hD hS 1 rfl rfl 14 (by decide) (hts (.fieldLink RX8 250 "TraitHouse" "modelsThere" "I") (by decide +kernel)) (fun _ h9 => h9) rfl (by decide +kernel) rfl rfl (Nat.le_of_ble_eq_true rfl) dX8_model_52 (fun H locs hP hD hS => ?_)
      replace hP : va_P (dC, dI) vwCl ([((ax 26), .inl (cA 0, 10, .inl g_9)), ((ax 0), .inr (8, [.ref (ax 1), .ref (ax 7), .ref (ax 10), .ref (ax 11), .ref (ax 13), .ref (ax 15), .ref (ax 16), .ref (ax 21), .ref (ax 26), .ref (ax 27), .ref (ax 28), .int xNow, .int xEr, .int xTr, .int x_10, .int xFa, .int xRe])), ((ax 15), .inl (cA 5, 20, .inr (.inr (.inr (.inr gTr)))))] ++ va_pl L pf) H := hP
      replace hD : va_D A ([((ax 26), .inl (cA 0, 10, .inl g_9)), ((ax 0), .inr (8, [.ref (ax 1), .ref (ax 7), .ref (ax 10), .ref (ax 11), .ref (ax 13), .ref (ax 15), .ref (ax 16), .ref (ax 21), .ref (ax 26), .ref (ax 27), .ref (ax 28), .int xNow, .int xEr, .int xTr, .int x_10, .int xFa, .int xRe])), ((ax 15), .inl (cA 5, 20, .inr (.inr (.inr (.inr gTr)))))] ++ va_pl L pf) := hD
      refine lv_aload_n hx hb dX8_model_55 rfl (lv_at hl 0 rfl) ?_
      refine lv_aload_n hx hb dX8_model_56 rfl (lv_at hl 0 rfl) ?_
      refine va_get (D := (dC, dI)) (ci := 8) (v := .int x_10) (C := RX8) (T := TX8) (N := 17) hx hb hts hIX8 hown hK hP 1 rfl rfl 14 (by decide) (hts (.fieldLink RX8 250 "TraitHouse" "modelsThere" "I") (by decide +kernel)) (fun _ h9 => h9) rfl dX8_model_57 ?_
      refine lv_iconst (v := 1) hx hb dX8_model_60 (by decide) ?_
      refine lv_isub hx hb dX8_model_61 ?_
      refine lv_topi (fun x_11 ex_11 => ?_)
      have dx_11 : x_11.toInt = x_10.toInt - 1 := by rw [ex_11]; exact jI_sub rfl (by decide) (by omega) (by omega)
      have hPc := hP.sub (ws' := [((ax 0), .inr (8, [.ref (ax 1), .ref (ax 7), .ref (ax 10), .ref (ax 11), .ref (ax 13), .ref (ax 15), .ref (ax 16), .ref (ax 21), .ref (ax 26), .ref (ax 27), .ref (ax 28), .int xNow, .int xEr, .int xTr, .int x_10, .int xFa, .int xRe]))]) [1] rfl
      have hDc := hD.sub (ws' := [((ax 0), .inr (8, [.ref (ax 1), .ref (ax 7), .ref (ax 10), .ref (ax 11), .ref (ax 13), .ref (ax 15), .ref (ax 16), .ref (ax 21), .ref (ax 26), .ref (ax 27), .ref (ax 28), .int xNow, .int xEr, .int xTr, .int x_10, .int xFa, .int xRe]))]) [1] (by decide) rfl
      have hFc := va_free (wc := [((ax 0), .inr (8, [.ref (ax 1), .ref (ax 7), .ref (ax 10), .ref (ax 11), .ref (ax 13), .ref (ax 15), .ref (ax 16), .ref (ax 21), .ref (ax 26), .ref (ax 27), .ref (ax 28), .int xNow, .int xEr, .int xTr, .int x_10, .int xFa, .int xRe]))]) hD hS hA [1] rfl
      refine va_calli (va_runV (As := [.int x_11]) (rest := []) ⟨hx, hb, hml, hown, hts⟩ (k_X8_settle l dC dI cA H.size ax xNow xEr xTr x_10 xFa xRe x_11 i_xNow i_xTr (by omega)) (cwV 1 hts gX8_model_X8_settle rfl rfl rfl (by decide +kernel) ⟨Nat.le_of_ble_eq_true rfl, Nat.le_of_ble_eq_true rfl⟩) ⟨fun a U g mk q => by obtain ⟨q0, q1, qP, qK, qD, qN⟩ := q; exact ⟨q0, q1, qP, va_K.moved (u := U) (U := U.calling g mk a) (Vm.Alike.refl U.vm) qK, qD, qN.same rfl⟩, va_recv hK hPc (ci := 8) (q0 := 0) rfl rfl, fun U hU hW => ⟨rfl, by rw [hU], by rw [hU]; exact hPc, va_K.moved hW.alike hK, hDc.weaken (fun _ _ _ _ => trivial), hN.warm hW⟩⟩ rfl rfl hl.1 rfl (lv_room (Nat.le_of_ble_eq_true rfl)) dX8_model_62 ⟨Nat.le_of_ble_eq_true rfl, Nat.le_of_ble_eq_true rfl⟩) hS (fun q _ h => hFc q h) hFc (fun r_12 u_13 t H1 locs ht hvm hw_14 hB hz1 hk1 hS => ?_)
      obtain ⟨w_15, rfl⟩ : ∃ z, z = u_13 := ⟨_, rfl⟩
      try dsimp only at hw_14 hB
      have hr9 := hw_14
      obtain ⟨hP1, hD1⟩ := hB
      rw [ht] at hP1
      obtain ⟨hP, hD⟩ := va_joinQ (wr := [((ax 26), .inl (cA 0, 10, .inl g_9)), ((ax 15), .inl (cA 5, 20, .inr (.inr (.inr (.inr gTr)))))]) (w1 := [((ax 0), .inr (8, [.ref (ax 1), .ref (ax 7), .ref (ax 10), .ref (ax 11), .ref (ax 13), .ref (ax 15), .ref (ax 16), .ref (ax 21), .ref (ax 26), .ref (ax 27), .ref (ax 28), .int xNow, .int xEr, .int xTr, .int x_10, .int xFa, .int w_15]))]) hP hD [1] [0, 2] rfl rfl (by decide) (by decide) hk1 hFc hP1 hD1
      clear hz1
      generalize H1 = H at hP hS ⊢
      replace hP : va_P (dC, dI) vwCl ([((ax 26), .inl (cA 0, 10, .inl g_9)), ((ax 15), .inl (cA 5, 20, .inr (.inr (.inr (.inr gTr))))), ((ax 0), .inr (8, [.ref (ax 1), .ref (ax 7), .ref (ax 10), .ref (ax 11), .ref (ax 13), .ref (ax 15), .ref (ax 16), .ref (ax 21), .ref (ax 26), .ref (ax 27), .ref (ax 28), .int xNow, .int xEr, .int xTr, .int x_10, .int xFa, .int w_15]))] ++ va_pl L pf) H := hP
      replace hD : va_D A ([((ax 26), .inl (cA 0, 10, .inl g_9)), ((ax 15), .inl (cA 5, 20, .inr (.inr (.inr (.inr gTr))))), ((ax 0), .inr (8, [.ref (ax 1), .ref (ax 7), .ref (ax 10), .ref (ax 11), .ref (ax 13), .ref (ax 15), .ref (ax 16), .ref (ax 21), .ref (ax 26), .ref (ax 27), .ref (ax 28), .int xNow, .int xEr, .int xTr, .int x_10, .int xFa, .int w_15]))] ++ va_pl L pf) := hD
      obtain rfl : x_11 = r_12 := hr9.symm
      have hP9 := hP.part (cx := [((ax 0), .inr (8, [.ref (ax 1), .ref (ax 7), .ref (ax 10), .ref (ax 11), .ref (ax 13), .ref (ax 15), .ref (ax 16), .ref (ax 21), .ref (ax 26), .ref (ax 27), .ref (ax 28), .int xNow, .int xEr, .int xTr, .int x_10, .int xFa, .int w_15])), ((ax 15), .inl (cA 5, 20, .inr (.inr (.inr (.inr gTr))))), ((ax 26), .inl (cA 0, 10, .inl g_9))]) [2, 1, 0] rfl
      have hD9 := hD.part (cx := [((ax 0), .inr (8, [.ref (ax 1), .ref (ax 7), .ref (ax 10), .ref (ax 11), .ref (ax 13), .ref (ax 15), .ref (ax 16), .ref (ax 21), .ref (ax 26), .ref (ax 27), .ref (ax 28), .int xNow, .int xEr, .int xTr, .int x_10, .int xFa, .int w_15])), ((ax 15), .inl (cA 5, 20, .inr (.inr (.inr (.inr gTr))))), ((ax 26), .inl (cA 0, 10, .inl g_9))]) [2, 1, 0] (by decide) rfl
      subst hQe
      have hans : (x_11 : Int32).toInt = x_11.toInt := rfl
      have hpost : (0 ≤ x_10.toInt ∧ x_10.toInt ≤ 10) ∧ ((¬ (0 ≤ a.toInt ∧ a.toInt < 2 ^ xTr.toInt.toNat) → (x_11 : Int32).toInt = (-1) ∧ x_10.toInt = xMo.toInt ∧ g_9 = gMo) ∧ ((0 ≤ a.toInt ∧ a.toInt < 2 ^ xTr.toInt.toNat) ∧ 10 ≤ xMo.toInt → (x_11 : Int32).toInt = (-5) ∧ x_10.toInt = xMo.toInt ∧ g_9 = gMo) ∧ ((0 ≤ a.toInt ∧ a.toInt < 2 ^ xTr.toInt.toNat) ∧ xMo.toInt < 10 → (x_11 : Int32).toInt = xMo.toInt ∧ x_10.toInt = xMo.toInt + 1 ∧ g_9 = upd gMo xMo.toNatClampNeg (nds nd a xTr.toInt.toNat))) := ⟨by omega, ⟨fun h => by exfalso; omega, fun h => by exfalso; omega, fun _ => ⟨by omega, by omega, (by rw [eg_9, po_7])⟩⟩⟩
      exact W.iret (v := x_11) hx hb hr (fun t ht hW => ⟨⟨x_11, (w_15, x_10, g_9), rfl, hpost, by rw [ht]; exact hP9, hD9⟩, hS.F ht⟩) hS.2.2 dX8_model_65
    · have dc_3 : 10 ≤ xMo.toInt := jI_nlt c_3 rfl (by decide)
      refine lv_aload_n hx hb dX8_model_24 rfl (lv_at hl 0 rfl) ?_
      refine lv_bipush (v := (-5)) hx hb dX8_model_25 (by decide) ?_
      have hk_16 : ((-5) : Int32).toInt = (-5) := by decide
      have hPc := hP.sub (ws' := [((ax 0), .inr (8, [.ref (ax 1), .ref (ax 7), .ref (ax 10), .ref (ax 11), .ref (ax 13), .ref (ax 15), .ref (ax 16), .ref (ax 21), .ref (ax 26), .ref (ax 27), .ref (ax 28), .int xNow, .int xEr, .int xTr, .int xMo, .int xFa, .int xRe]))]) [0] rfl
      have hDc := hD.sub (ws' := [((ax 0), .inr (8, [.ref (ax 1), .ref (ax 7), .ref (ax 10), .ref (ax 11), .ref (ax 13), .ref (ax 15), .ref (ax 16), .ref (ax 21), .ref (ax 26), .ref (ax 27), .ref (ax 28), .int xNow, .int xEr, .int xTr, .int xMo, .int xFa, .int xRe]))]) [0] (by decide) rfl
      have hFc := va_free (wc := [((ax 0), .inr (8, [.ref (ax 1), .ref (ax 7), .ref (ax 10), .ref (ax 11), .ref (ax 13), .ref (ax 15), .ref (ax 16), .ref (ax 21), .ref (ax 26), .ref (ax 27), .ref (ax 28), .int xNow, .int xEr, .int xTr, .int xMo, .int xFa, .int xRe]))]) hD hS hA [0] rfl
      refine va_calli (va_runV (As := [.int (-5)]) (rest := []) ⟨hx, hb, hml, hown, hts⟩ (k_X8_settle l dC dI cA s.heap.size ax xNow xEr xTr xMo xFa xRe (-5) i_xNow i_xTr i_xMo) (cwV 1 hts gX8_model_X8_settle rfl rfl rfl (by decide +kernel) ⟨Nat.le_of_ble_eq_true rfl, Nat.le_of_ble_eq_true rfl⟩) ⟨fun a U g mk q => by obtain ⟨q0, q1, qP, qK, qD, qN⟩ := q; exact ⟨q0, q1, qP, va_K.moved (u := U) (U := U.calling g mk a) (Vm.Alike.refl U.vm) qK, qD, qN.same rfl⟩, va_recv hK hPc (ci := 8) (q0 := 0) rfl rfl, fun U hU hW => ⟨rfl, by rw [hU], by rw [hU]; exact hPc, va_K.moved hW.alike hK, hDc.weaken (fun _ _ _ _ => trivial), hN.warm hW⟩⟩ rfl rfl hl.1 rfl (lv_room (Nat.le_of_ble_eq_true rfl)) dX8_model_27 ⟨Nat.le_of_ble_eq_true rfl, Nat.le_of_ble_eq_true rfl⟩) hS (fun q _ h => hFc q h) hFc (fun r_17 u_18 t H1 locs ht hvm hw_19 hB hz1 hk1 hS => ?_)
      obtain ⟨w_20, rfl⟩ : ∃ z, z = u_18 := ⟨_, rfl⟩
      try dsimp only at hw_19 hB
      have hr9 := hw_19
      obtain ⟨hP1, hD1⟩ := hB
      rw [ht] at hP1
      obtain ⟨hP, hD⟩ := va_joinQ (wr := [((ax 15), .inl (cA 5, 20, .inr (.inr (.inr (.inr gTr))))), ((ax 26), .inl (cA 0, 10, .inl gMo))]) (w1 := [((ax 0), .inr (8, [.ref (ax 1), .ref (ax 7), .ref (ax 10), .ref (ax 11), .ref (ax 13), .ref (ax 15), .ref (ax 16), .ref (ax 21), .ref (ax 26), .ref (ax 27), .ref (ax 28), .int xNow, .int xEr, .int xTr, .int xMo, .int xFa, .int w_20]))]) hP hD [0] [1, 2] rfl rfl (by decide) (by decide) hk1 hFc hP1 hD1
      clear hz1
      generalize H1 = H at hP hS ⊢
      replace hP : va_P (dC, dI) vwCl ([((ax 15), .inl (cA 5, 20, .inr (.inr (.inr (.inr gTr))))), ((ax 26), .inl (cA 0, 10, .inl gMo)), ((ax 0), .inr (8, [.ref (ax 1), .ref (ax 7), .ref (ax 10), .ref (ax 11), .ref (ax 13), .ref (ax 15), .ref (ax 16), .ref (ax 21), .ref (ax 26), .ref (ax 27), .ref (ax 28), .int xNow, .int xEr, .int xTr, .int xMo, .int xFa, .int w_20]))] ++ va_pl L pf) H := hP
      replace hD : va_D A ([((ax 15), .inl (cA 5, 20, .inr (.inr (.inr (.inr gTr))))), ((ax 26), .inl (cA 0, 10, .inl gMo)), ((ax 0), .inr (8, [.ref (ax 1), .ref (ax 7), .ref (ax 10), .ref (ax 11), .ref (ax 13), .ref (ax 15), .ref (ax 16), .ref (ax 21), .ref (ax 26), .ref (ax 27), .ref (ax 28), .int xNow, .int xEr, .int xTr, .int xMo, .int xFa, .int w_20]))] ++ va_pl L pf) := hD
      obtain rfl : (-5) = r_17 := hr9.symm
      have hP9 := hP.part (cx := [((ax 0), .inr (8, [.ref (ax 1), .ref (ax 7), .ref (ax 10), .ref (ax 11), .ref (ax 13), .ref (ax 15), .ref (ax 16), .ref (ax 21), .ref (ax 26), .ref (ax 27), .ref (ax 28), .int xNow, .int xEr, .int xTr, .int xMo, .int xFa, .int w_20])), ((ax 15), .inl (cA 5, 20, .inr (.inr (.inr (.inr gTr))))), ((ax 26), .inl (cA 0, 10, .inl gMo))]) [2, 0, 1] rfl
      have hD9 := hD.part (cx := [((ax 0), .inr (8, [.ref (ax 1), .ref (ax 7), .ref (ax 10), .ref (ax 11), .ref (ax 13), .ref (ax 15), .ref (ax 16), .ref (ax 21), .ref (ax 26), .ref (ax 27), .ref (ax 28), .int xNow, .int xEr, .int xTr, .int xMo, .int xFa, .int w_20])), ((ax 15), .inl (cA 5, 20, .inr (.inr (.inr (.inr gTr))))), ((ax 26), .inl (cA 0, 10, .inl gMo))]) [2, 0, 1] (by decide) rfl
      subst hQe
      have hans : ((-5) : Int32).toInt = (-5) := (by decide)
      have hpost : (0 ≤ xMo.toInt ∧ xMo.toInt ≤ 10) ∧ ((¬ (0 ≤ a.toInt ∧ a.toInt < 2 ^ xTr.toInt.toNat) → ((-5) : Int32).toInt = (-1) ∧ xMo.toInt = xMo.toInt ∧ gMo = gMo) ∧ ((0 ≤ a.toInt ∧ a.toInt < 2 ^ xTr.toInt.toNat) ∧ 10 ≤ xMo.toInt → ((-5) : Int32).toInt = (-5) ∧ xMo.toInt = xMo.toInt ∧ gMo = gMo) ∧ ((0 ≤ a.toInt ∧ a.toInt < 2 ^ xTr.toInt.toNat) ∧ xMo.toInt < 10 → ((-5) : Int32).toInt = xMo.toInt ∧ xMo.toInt = xMo.toInt + 1 ∧ gMo = upd gMo xMo.toNatClampNeg (nds nd a xTr.toInt.toNat))) := ⟨i_xMo, ⟨fun h => by exfalso; omega, fun _ => ⟨by omega, by omega, rfl⟩, fun h => by exfalso; omega⟩⟩
      exact W.iret (v := (-5)) hx hb hr (fun t ht hW => ⟨⟨(-5), (w_20, xMo, gMo), rfl, hpost, by rw [ht]; exact hP9, hD9⟩, hS.F ht⟩) hS.2.2 dX8_model_30
  · have dc_2 : ¬ x_1.toInt = 0 := jI_ne c_2 rfl (by decide)
    refine lv_aload_n hx hb dX8_model_9 rfl (lv_at hl 0 rfl) ?_
    refine lv_iconst (v := (-1)) hx hb dX8_model_10 (by decide) ?_
    have hk_21 : ((-1) : Int32).toInt = (-1) := by decide
    have hPc := hP.sub (ws' := [((ax 0), .inr (8, [.ref (ax 1), .ref (ax 7), .ref (ax 10), .ref (ax 11), .ref (ax 13), .ref (ax 15), .ref (ax 16), .ref (ax 21), .ref (ax 26), .ref (ax 27), .ref (ax 28), .int xNow, .int xEr, .int xTr, .int xMo, .int xFa, .int xRe]))]) [0] rfl
    have hDc := hD.sub (ws' := [((ax 0), .inr (8, [.ref (ax 1), .ref (ax 7), .ref (ax 10), .ref (ax 11), .ref (ax 13), .ref (ax 15), .ref (ax 16), .ref (ax 21), .ref (ax 26), .ref (ax 27), .ref (ax 28), .int xNow, .int xEr, .int xTr, .int xMo, .int xFa, .int xRe]))]) [0] (by decide) rfl
    have hFc := va_free (wc := [((ax 0), .inr (8, [.ref (ax 1), .ref (ax 7), .ref (ax 10), .ref (ax 11), .ref (ax 13), .ref (ax 15), .ref (ax 16), .ref (ax 21), .ref (ax 26), .ref (ax 27), .ref (ax 28), .int xNow, .int xEr, .int xTr, .int xMo, .int xFa, .int xRe]))]) hD hS hA [0] rfl
    refine va_calli (va_runV (As := [.int (-1)]) (rest := []) ⟨hx, hb, hml, hown, hts⟩ (k_X8_settle l dC dI cA s.heap.size ax xNow xEr xTr xMo xFa xRe (-1) i_xNow i_xTr i_xMo) (cwV 1 hts gX8_model_X8_settle rfl rfl rfl (by decide +kernel) ⟨Nat.le_of_ble_eq_true rfl, Nat.le_of_ble_eq_true rfl⟩) ⟨fun a U g mk q => by obtain ⟨q0, q1, qP, qK, qD, qN⟩ := q; exact ⟨q0, q1, qP, va_K.moved (u := U) (U := U.calling g mk a) (Vm.Alike.refl U.vm) qK, qD, qN.same rfl⟩, va_recv hK hPc (ci := 8) (q0 := 0) rfl rfl, fun U hU hW => ⟨rfl, by rw [hU], by rw [hU]; exact hPc, va_K.moved hW.alike hK, hDc.weaken (fun _ _ _ _ => trivial), hN.warm hW⟩⟩ rfl rfl hl.1 rfl (lv_room (Nat.le_of_ble_eq_true rfl)) dX8_model_11 ⟨Nat.le_of_ble_eq_true rfl, Nat.le_of_ble_eq_true rfl⟩) hS (fun q _ h => hFc q h) hFc (fun r_22 u_23 t H1 locs ht hvm hw_24 hB hz1 hk1 hS => ?_)
    obtain ⟨w_25, rfl⟩ : ∃ z, z = u_23 := ⟨_, rfl⟩
    try dsimp only at hw_24 hB
    have hr9 := hw_24
    obtain ⟨hP1, hD1⟩ := hB
    rw [ht] at hP1
    obtain ⟨hP, hD⟩ := va_joinQ (wr := [((ax 15), .inl (cA 5, 20, .inr (.inr (.inr (.inr gTr))))), ((ax 26), .inl (cA 0, 10, .inl gMo))]) (w1 := [((ax 0), .inr (8, [.ref (ax 1), .ref (ax 7), .ref (ax 10), .ref (ax 11), .ref (ax 13), .ref (ax 15), .ref (ax 16), .ref (ax 21), .ref (ax 26), .ref (ax 27), .ref (ax 28), .int xNow, .int xEr, .int xTr, .int xMo, .int xFa, .int w_25]))]) hP hD [0] [1, 2] rfl rfl (by decide) (by decide) hk1 hFc hP1 hD1
    clear hz1
    generalize H1 = H at hP hS ⊢
    replace hP : va_P (dC, dI) vwCl ([((ax 15), .inl (cA 5, 20, .inr (.inr (.inr (.inr gTr))))), ((ax 26), .inl (cA 0, 10, .inl gMo)), ((ax 0), .inr (8, [.ref (ax 1), .ref (ax 7), .ref (ax 10), .ref (ax 11), .ref (ax 13), .ref (ax 15), .ref (ax 16), .ref (ax 21), .ref (ax 26), .ref (ax 27), .ref (ax 28), .int xNow, .int xEr, .int xTr, .int xMo, .int xFa, .int w_25]))] ++ va_pl L pf) H := hP
    replace hD : va_D A ([((ax 15), .inl (cA 5, 20, .inr (.inr (.inr (.inr gTr))))), ((ax 26), .inl (cA 0, 10, .inl gMo)), ((ax 0), .inr (8, [.ref (ax 1), .ref (ax 7), .ref (ax 10), .ref (ax 11), .ref (ax 13), .ref (ax 15), .ref (ax 16), .ref (ax 21), .ref (ax 26), .ref (ax 27), .ref (ax 28), .int xNow, .int xEr, .int xTr, .int xMo, .int xFa, .int w_25]))] ++ va_pl L pf) := hD
    obtain rfl : (-1) = r_22 := hr9.symm
    have hP9 := hP.part (cx := [((ax 0), .inr (8, [.ref (ax 1), .ref (ax 7), .ref (ax 10), .ref (ax 11), .ref (ax 13), .ref (ax 15), .ref (ax 16), .ref (ax 21), .ref (ax 26), .ref (ax 27), .ref (ax 28), .int xNow, .int xEr, .int xTr, .int xMo, .int xFa, .int w_25])), ((ax 15), .inl (cA 5, 20, .inr (.inr (.inr (.inr gTr))))), ((ax 26), .inl (cA 0, 10, .inl gMo))]) [2, 0, 1] rfl
    have hD9 := hD.part (cx := [((ax 0), .inr (8, [.ref (ax 1), .ref (ax 7), .ref (ax 10), .ref (ax 11), .ref (ax 13), .ref (ax 15), .ref (ax 16), .ref (ax 21), .ref (ax 26), .ref (ax 27), .ref (ax 28), .int xNow, .int xEr, .int xTr, .int xMo, .int xFa, .int w_25])), ((ax 15), .inl (cA 5, 20, .inr (.inr (.inr (.inr gTr))))), ((ax 26), .inl (cA 0, 10, .inl gMo))]) [2, 0, 1] (by decide) rfl
    subst hQe
    have hans : ((-1) : Int32).toInt = (-1) := (by decide)
    have hpost : (0 ≤ xMo.toInt ∧ xMo.toInt ≤ 10) ∧ ((¬ (0 ≤ a.toInt ∧ a.toInt < 2 ^ xTr.toInt.toNat) → ((-1) : Int32).toInt = (-1) ∧ xMo.toInt = xMo.toInt ∧ gMo = gMo) ∧ ((0 ≤ a.toInt ∧ a.toInt < 2 ^ xTr.toInt.toNat) ∧ 10 ≤ xMo.toInt → ((-1) : Int32).toInt = (-5) ∧ xMo.toInt = xMo.toInt ∧ gMo = gMo) ∧ ((0 ≤ a.toInt ∧ a.toInt < 2 ^ xTr.toInt.toNat) ∧ xMo.toInt < 10 → ((-1) : Int32).toInt = xMo.toInt ∧ xMo.toInt = xMo.toInt + 1 ∧ gMo = upd gMo xMo.toNatClampNeg (nds nd a xTr.toInt.toNat))) := ⟨i_xMo, ⟨fun _ => ⟨by omega, by omega, rfl⟩, fun h => by exfalso; omega, fun h => by exfalso; omega⟩⟩
    exact W.iret (v := (-1)) hx hb hr (fun t ht hW => ⟨⟨(-1), (w_25, xMo, gMo), rfl, hpost, by rw [ht]; exact hP9, hD9⟩, hS.F ht⟩) hS.2.2 dX8_model_14
