theorem dX8_limit_0 : decode cX8_limit 0 = .ok (.iload_n 2, 1) := by decide +kernel
set_option maxRecDepth 20000 in
theorem ggX8_limit_X8_isMoment : GoodIn wsX8_limit wsX8_isMoment := goodIn_r _ [4, 5] (by decide +kernel) (by decide +kernel)
set_option maxRecDepth 20000 in
theorem gX8_limit_X8_isMoment : GoodIn wsX8_limit (va_wsS RX8 79 yX8_isMoment wsX8_isMoment) := goodIn_app (goodIn_of _ (by decide +kernel)) ggX8_limit_X8_isMoment
theorem dX8_limit_1 : decode cX8_limit 1 = .ok (.invokestatic 79, 3) := by decide +kernel
theorem dX8_limit_4 : decode cX8_limit 4 = .ok (.ifCond .ne 9, 3) := by decide +kernel
theorem dX8_limit_13 : decode cX8_limit 13 = .ok (.aload_n 0, 1) := by decide +kernel
theorem dX8_limit_14 : decode cX8_limit 14 = .ok (.iload_n 1, 1) := by decide +kernel
set_option maxRecDepth 20000 in
theorem ggX8_limit_X8_traitAt : GoodIn wsX8_limit wsX8_traitAt := goodIn_r _ [18, 19, 20, 29, 30, 31, 32, 33, 34, 35, 36, 37, 38, 39, 40, 41, 42, 43, 44, 45] (by decide +kernel) (by decide +kernel)
set_option maxRecDepth 20000 in
theorem gX8_limit_X8_traitAt : GoodIn wsX8_limit (wsV RX8 130 RX8 yX8_traitAt wsX8_traitAt) := goodIn_app (goodIn_of _ (by decide +kernel)) ggX8_limit_X8_traitAt
theorem dX8_limit_15 : decode cX8_limit 15 = .ok (.invokevirtual 130, 3) := by decide +kernel
theorem dX8_limit_18 : decode cX8_limit 18 = .ok (.astore_n 3, 1) := by decide +kernel
theorem dX8_limit_19 : decode cX8_limit 19 = .ok (.aload_n 3, 1) := by decide +kernel
theorem dX8_limit_20 : decode cX8_limit 20 = .ok (.ifnonnull 10, 3) := by decide +kernel
theorem dX8_limit_30 : decode cX8_limit 30 = .ok (.aload_n 3, 1) := by decide +kernel
theorem dX8_limit_31 : decode cX8_limit 31 = .ok (.getfield 188, 3) := by decide +kernel
theorem dX8_limit_34 : decode cX8_limit 34 = .ok (.istore 4, 2) := by decide +kernel
theorem dX8_limit_36 : decode cX8_limit 36 = .ok (.aload_n 3, 1) := by decide +kernel
theorem dX8_limit_37 : decode cX8_limit 37 = .ok (.iload_n 2, 1) := by decide +kernel
theorem dX8_limit_38 : decode cX8_limit 38 = .ok (.putfield 188, 3) := by decide +kernel
theorem dX8_limit_41 : decode cX8_limit 41 = .ok (.aload_n 0, 1) := by decide +kernel
theorem dX8_limit_42 : decode cX8_limit 42 = .ok (.iload 4, 2) := by decide +kernel
set_option maxRecDepth 20000 in
theorem ggX8_limit_X8_settle : GoodIn wsX8_limit wsX8_settle := goodIn_r _ [9, 10, 11, 12, 13, 14, 29, 30, 31, 32, 33, 34, 35, 36, 37, 38, 39, 40, 41, 42, 43, 44, 45] (by decide +kernel) (by decide +kernel)
set_option maxRecDepth 20000 in
theorem gX8_limit_X8_settle : GoodIn wsX8_limit (wsV RX8 86 RX8 yX8_settle wsX8_settle) := goodIn_app (goodIn_of _ (by decide +kernel)) ggX8_limit_X8_settle
theorem dX8_limit_44 : decode cX8_limit 44 = .ok (.invokevirtual 86, 3) := by decide +kernel
theorem dX8_limit_47 : decode cX8_limit 47 = .ok (.ireturn, 1) := by decide +kernel
theorem dX8_limit_23 : decode cX8_limit 23 = .ok (.aload_n 0, 1) := by decide +kernel
theorem dX8_limit_24 : decode cX8_limit 24 = .ok (.bipush (-2), 2) := by decide +kernel
theorem dX8_limit_26 : decode cX8_limit 26 = .ok (.invokevirtual 86, 3) := by decide +kernel
theorem dX8_limit_29 : decode cX8_limit 29 = .ok (.ireturn, 1) := by decide +kernel
theorem dX8_limit_7 : decode cX8_limit 7 = .ok (.aload_n 0, 1) := by decide +kernel
theorem dX8_limit_8 : decode cX8_limit 8 = .ok (.iconst (-1), 1) := by decide +kernel
theorem dX8_limit_9 : decode cX8_limit 9 = .ok (.invokevirtual 86, 3) := by decide +kernel
theorem dX8_limit_12 : decode cX8_limit 12 = .ok (.ireturn, 1) := by decide +kernel
theorem TP_limit {cA : Nat → ClassId} {n tt x : Int32} {fTr : Nat → Option Nat} {L : List Nat} {f g : Nat → va_E} {nd sl : Nat → Int32} {t s v m : Nat} {nd1 sl1 he : Int32} {lf lt : Int64} (h : TP cA n fTr L f nd sl) (h0 : 0 ≤ tt.toInt) (h1 : tt.toInt < n.toInt) (ht : fTr tt.toNatClampNeg = some t) (hf : f t = .inr (6, [.ref s, .int nd1, .ref v, .ref m, .long lf, .long lt, .int sl1, .int he])) (eg : g = va_up f t (.inr (6, [.ref s, .int nd1, .ref v, .ref m, .long lf, .long lt, .int x, .int he]))) : TP cA n fTr L g nd (upd sl tt.toNatClampNeg x) := by
  have e0 : tt.toNatClampNeg = tt.toInt.toNat := rfl
  refine ⟨fun k hk => ?_, h.2⟩
  obtain ⟨t', hk1, hm, s', v', m', lf', lt', he', hft, hs, hv, ⟨kv, hkv⟩, hmm, ⟨km, hkm⟩⟩ := h.1 k hk
  have nl : ∀ {a : Nat} {e : ClassId × vp_A}, f a = .inl e → g a = .inl e := by
    intro a e q
    rw [eg, va_up_ne _ _ (fun z => by rw [z, hf] at q; cases q)]; exact q
  have n4 : ∀ {a : Nat}, stepOk L f a → stepOk L g a := by
    intro a ⟨q1, kd, nb, fr, to, q2, q3⟩
    refine ⟨q1, kd, nb, fr, to, ?_, q3⟩
    rw [eg, va_up_ne _ _ (fun z => by rw [z, hf] at q2; simp at q2)]; exact q2
  have hs' : stepsOk cA L g s' := by
    obtain ⟨q1, sn, sg, q2, q3, q4⟩ := hs
    exact ⟨q1, sn, sg, nl q2, q3, fun j hj => by obtain ⟨a, w1, w2⟩ := q4 j hj; exact ⟨a, w1, n4 w2⟩⟩
  by_cases hkt : k = tt.toNatClampNeg
  · subst hkt
    have e1 : t' = t := Option.some.inj (hk1.symm.trans ht)
    subst e1
    rw [hf] at hft
    simp only [Sum.inr.injEq, Prod.mk.injEq, List.cons.injEq, Value.ref.injEq, Value.int.injEq, Value.long.injEq, true_and, and_true] at hft
    obtain ⟨rfl, rfl, rfl, rfl, rfl, rfl, rfl, rfl⟩ := hft
    refine ⟨t', hk1, hm, s, v, m, lf, lt, he, ?_, hs', hv, ⟨kv, nl hkv⟩, hmm, ⟨km, nl hkm⟩⟩
    rw [eg, va_up_self, pk_us]
  · have hne : t' ≠ t := fun q => hkt (h.2 k _ hk (by omega) (by rw [hk1, ht, q]))
    refine ⟨t', hk1, hm, s', v', m', lf', lt', he', ?_, hs', hv, ⟨kv, nl hkv⟩, hmm, ⟨km, nl hkm⟩⟩
    rw [eg, va_up_ne _ _ hne, pk_un hkt]; exact hft

set_option maxHeartbeats 8000000 in
set_option maxRecDepth 100000 in
theorem k_X8_limit (l : Launch) (dC : Nat → ClassId) (dI : Nat → Nat → Nat) (cA : Nat → ClassId) (sz : Nat) (ax : Nat → Nat) (xNow : Int32) (xEr : Int32) (xTr : Int32) (xMo : Int32) (xFa : Int32) (xRe : Int32) (gTr : Nat → Option Nat) (L : List Nat) (pf : Nat → va_E) (tt : Int32) (n : Int32) (nd : Nat → Int32) (sl : Nat → Int32) (i_xNow : 0 ≤ xNow.toInt ∧ xNow.toInt ≤ 100000) (i_xTr : 0 ≤ xTr.toInt ∧ xTr.toInt ≤ 20) (i_xMo : 0 ≤ xMo.toInt ∧ xMo.toInt ≤ 10) (hTP : TP cA xTr gTr L pf nd sl) : Met l yX8_limit wsX8_limit ({ frames := 2, cells := 0, slots := 0, locals := 44 }) (va_Pc [.ref (ax 0), .int tt, .int n] (fun U => U.heap.size = sz ∧ va_P (dC, dI) vwCl (([((ax 0), .inr (8, [.ref (ax 1), .ref (ax 7), .ref (ax 10), .ref (ax 11), .ref (ax 13), .ref (ax 15), .ref (ax 16), .ref (ax 21), .ref (ax 26), .ref (ax 27), .ref (ax 28), .int xNow, .int xEr, .int xTr, .int xMo, .int xFa, .int xRe])), ((ax 15), .inl (cA 5, 20, .inr (.inr (.inr (.inr gTr)))))] : va_W) ++ va_pl L pf) U.heap ∧ va_K (dC, dI) vwCl (tyL cA) U ∧ va_D (fun _ => True) (([((ax 0), .inr (8, [.ref (ax 1), .ref (ax 7), .ref (ax 10), .ref (ax 11), .ref (ax 13), .ref (ax 15), .ref (ax 16), .ref (ax 21), .ref (ax 26), .ref (ax 27), .ref (ax 28), .int xNow, .int xEr, .int xTr, .int xMo, .int xFa, .int xRe])), ((ax 15), .inl (cA 5, 20, .inr (.inr (.inr (.inr gTr)))))] : va_W) ++ va_pl L pf) ∧ nw_ok U)) (va_Qi (fun (r : Int32) (u : (Nat → va_E) × Int32 × (Nat → Int32)) => ((¬ (0 ≤ n.toInt ∧ n.toInt ≤ 100000) → r.toInt = (-1) ∧ u.2.2 = sl) ∧ ((0 ≤ n.toInt ∧ n.toInt ≤ 100000) ∧ ¬ (0 ≤ tt.toInt ∧ tt.toInt < xTr.toInt) → r.toInt = (-2) ∧ u.2.2 = sl) ∧ ((0 ≤ n.toInt ∧ n.toInt ≤ 100000) ∧ (0 ≤ tt.toInt ∧ tt.toInt < xTr.toInt) → r = sl tt.toNatClampNeg ∧ u.2.2 = upd sl tt.toNatClampNeg n)) ∧ (TP cA xTr gTr L u.1 nd u.2.2)) (fun (u : (Nat → va_E) × Int32 × (Nat → Int32)) (t : State) => va_P (dC, dI) vwCl (([((ax 0), .inr (8, [.ref (ax 1), .ref (ax 7), .ref (ax 10), .ref (ax 11), .ref (ax 13), .ref (ax 15), .ref (ax 16), .ref (ax 21), .ref (ax 26), .ref (ax 27), .ref (ax 28), .int xNow, .int xEr, .int xTr, .int xMo, .int xFa, .int u.2.1])), ((ax 15), .inl (cA 5, 20, .inr (.inr (.inr (.inr gTr)))))] : va_W) ++ va_pl L u.1) t.heap ∧ va_D (va_A (([((ax 0), .inr (8, [.ref (ax 1), .ref (ax 7), .ref (ax 10), .ref (ax 11), .ref (ax 13), .ref (ax 15), .ref (ax 16), .ref (ax 21), .ref (ax 26), .ref (ax 27), .ref (ax 28), .int xNow, .int xEr, .int xTr, .int xMo, .int xFa, .int xRe])), ((ax 15), .inl (cA 5, 20, .inr (.inr (.inr (.inr gTr)))))] : va_W) ++ va_pl L pf) sz) (([((ax 0), .inr (8, [.ref (ax 1), .ref (ax 7), .ref (ax 10), .ref (ax 11), .ref (ax 13), .ref (ax 15), .ref (ax 16), .ref (ax 21), .ref (ax 26), .ref (ax 27), .ref (ax 28), .int xNow, .int xEr, .int xTr, .int xMo, .int xFa, .int u.2.1])), ((ax 15), .inl (cA 5, 20, .inr (.inr (.inr (.inr gTr)))))] : va_W) ++ va_pl L u.1)) (va_A (([((ax 0), .inr (8, [.ref (ax 1), .ref (ax 7), .ref (ax 10), .ref (ax 11), .ref (ax 13), .ref (ax 15), .ref (ax 16), .ref (ax 21), .ref (ax 26), .ref (ax 27), .ref (ax 28), .int xNow, .int xEr, .int xTr, .int xMo, .int xFa, .int xRe])), ((ax 15), .inl (cA 5, 20, .inr (.inr (.inr (.inr gTr)))))] : va_W) ++ va_pl L pf) sz)) 0 0 (va_A (([((ax 0), .inr (8, [.ref (ax 1), .ref (ax 7), .ref (ax 10), .ref (ax 11), .ref (ax 13), .ref (ax 15), .ref (ax 16), .ref (ax 21), .ref (ax 26), .ref (ax 27), .ref (ax 28), .int xNow, .int xEr, .int xTr, .int xMo, .int xFa, .int xRe])), ((ax 15), .inl (cA 5, 20, .inr (.inr (.inr (.inr gTr)))))] : va_W) ++ va_pl L pf) sz) := by
  refine Met.ofW (cc := cX8_limit) (maxL := 5) (ret := (some .int)) (by decide) rfl ?_
  intro p e s m args below meth c s₁ B hml hv
  obtain ⟨rfl, hsz, hP, hK, hD0, hN⟩ := hv
  have hx := B.exec
  have hb := B.bytes
  have hr := B.returns
  have hts := atoms_spec (ws := wsX8_limit) B.pre
  have hown : s.vm.findClass RX8 = some m.cls := findClass_of_methodNamed B.named
  have hlocks := B.notSynchronized
  subst hsz
  have hD := hD0.self (sz := s.heap.size)
  generalize hAe : va_A (([((ax 0), .inr (8, [.ref (ax 1), .ref (ax 7), .ref (ax 10), .ref (ax 11), .ref (ax 13), .ref (ax 15), .ref (ax 16), .ref (ax 21), .ref (ax 26), .ref (ax 27), .ref (ax 28), .int xNow, .int xEr, .int xTr, .int xMo, .int xFa, .int xRe])), ((ax 15), .inl (cA 5, 20, .inr (.inr (.inr (.inr gTr)))))] : va_W) ++ va_pl L pf) s.heap.size = A at hD ⊢
  have hA : ∀ q : Nat, s.heap.size ≤ q → A q := fun q h => by rw [← hAe]; exact Or.inr h
  have hS : va_S A s.heap s.heap [] := va_S.rf
  have hIX6 : ∀ w ∈ u_ws RX6 TX6 8, w ∈ wsX8_limit := by decide +kernel
  have hl := lv_entry ([.ref (ax 0), .int tt, .int n]) (n := 5) (Nat.le_of_ble_eq_true rfl)
  rw [lg_entry_eq]
  generalize (lg_sl ([.ref (ax 0), .int tt, .int n]) ++ List.replicate (5 - (lg_sl ([.ref (ax 0), .int tt, .int n])).length) Slot.unset).toArray = ls at hl ⊢
  have hl : lv_has ls 5 [(0, .ref (ax 0)), (1, .int tt), (2, .int n)] := hl
  generalize hQe : MQ below _ _ _ _ _ _ = QQ
  refine lv_iload_n hx hb dX8_limit_0 rfl (lv_at hl 2 rfl) ?_
  obtain ⟨hPc, hDc, hFc, hCc⟩ := va_pre (ws' := []) hP hD hS hA [] (by decide) rfl
  refine va_calli (va_runS (As := [.int n]) (rest := []) ⟨hx, hb, hml, hown, hts⟩ (k_X8_isMoment l dC dI cA s.heap.size n ) (va_cwS 1 hts gX8_limit_X8_isMoment rfl rfl rfl (by decide +kernel) ⟨Nat.le_of_ble_eq_true rfl, Nat.le_of_ble_eq_true rfl⟩) ⟨fun a U g mk q => by obtain ⟨q0, q1, qP, qK, qD, qN⟩ := q; exact ⟨q0, q1, qP, va_K.moved (u := U) (U := U.calling g mk a) (Vm.Alike.refl U.vm) qK, qD, qN.same rfl⟩, fun U hU hW => ⟨rfl, by rw [hU], by rw [hU]; exact hPc, va_K.moved hW.alike hK, hDc.weaken (fun _ _ _ _ => trivial), hN.warm hW⟩⟩ rfl rfl hl.1 rfl (lv_room (Nat.le_of_ble_eq_true rfl)) dX8_limit_1 ⟨Nat.le_of_ble_eq_true rfl, Nat.le_of_ble_eq_true rfl⟩) hS (fun q _ h => hFc q h) hFc (fun r_1 u_2 t H1 locs ht hvm hw_3 hB hz1 hk1 hS => ?_)
  try dsimp only at hw_3 hB
  have po_4 := hw_3
  clear hw_3
  obtain ⟨hP1, hD1⟩ := hB
  rw [ht] at hP1
  obtain ⟨hP, hD⟩ := va_joinQ (wr := [((ax 0), .inr (8, [.ref (ax 1), .ref (ax 7), .ref (ax 10), .ref (ax 11), .ref (ax 13), .ref (ax 15), .ref (ax 16), .ref (ax 21), .ref (ax 26), .ref (ax 27), .ref (ax 28), .int xNow, .int xEr, .int xTr, .int xMo, .int xFa, .int xRe])), ((ax 15), .inl (cA 5, 20, .inr (.inr (.inr (.inr gTr)))))]) (w1 := []) hP hD [] [0, 1] rfl rfl (by decide) (by decide) hk1 hFc hP1 hD1
  clear hz1
  generalize H1 = H at hP hS ⊢
  replace hP : va_P (dC, dI) vwCl (([((ax 0), .inr (8, [.ref (ax 1), .ref (ax 7), .ref (ax 10), .ref (ax 11), .ref (ax 13), .ref (ax 15), .ref (ax 16), .ref (ax 21), .ref (ax 26), .ref (ax 27), .ref (ax 28), .int xNow, .int xEr, .int xTr, .int xMo, .int xFa, .int xRe])), ((ax 15), .inl (cA 5, 20, .inr (.inr (.inr (.inr gTr)))))] : va_W) ++ va_pl L pf) H := hP
  replace hD : va_D A (([((ax 0), .inr (8, [.ref (ax 1), .ref (ax 7), .ref (ax 10), .ref (ax 11), .ref (ax 13), .ref (ax 15), .ref (ax 16), .ref (ax 21), .ref (ax 26), .ref (ax 27), .ref (ax 28), .int xNow, .int xEr, .int xTr, .int xMo, .int xFa, .int xRe])), ((ax 15), .inl (cA 5, 20, .inr (.inr (.inr (.inr gTr)))))] : va_W) ++ va_pl L pf) := hD
  refine lv_if_ne (tgt := 13) hx hb dX8_limit_4 (by decide) (fun c_5 => ?_) (fun c_5 => ?_)
  · have dc_5 : ¬ r_1.toInt = 0 := jI_ne c_5 rfl (by decide)
    refine lv_aload_n hx hb dX8_limit_13 rfl (lv_at hl 0 rfl) ?_
    refine lv_iload_n hx hb dX8_limit_14 rfl (lv_at hl 1 rfl) ?_
    obtain ⟨hPc, hDc, hFc, hCc⟩ := va_pre (ws' := [((ax 0), .inr (8, [.ref (ax 1), .ref (ax 7), .ref (ax 10), .ref (ax 11), .ref (ax 13), .ref (ax 15), .ref (ax 16), .ref (ax 21), .ref (ax 26), .ref (ax 27), .ref (ax 28), .int xNow, .int xEr, .int xTr, .int xMo, .int xFa, .int xRe])), ((ax 15), .inl (cA 5, 20, .inr (.inr (.inr (.inr gTr)))))]) hP hD hS hA [0, 1] (by decide) rfl
    refine va_callq (va_runV (As := [.int tt]) (rest := []) ⟨hx, hb, hml, hown, hts⟩ (k_X8_traitAt l dC dI cA H.size ax xNow xEr xTr xMo xFa xRe gTr tt i_xNow i_xTr i_xMo) (cwV 1 hts gX8_limit_X8_traitAt rfl rfl rfl (by decide +kernel) ⟨Nat.le_of_ble_eq_true rfl, Nat.le_of_ble_eq_true rfl⟩) ⟨fun a U g mk q => by obtain ⟨q0, q1, qP, qK, qD, qN⟩ := q; exact ⟨q0, q1, qP, va_K.moved (u := U) (U := U.calling g mk a) (Vm.Alike.refl U.vm) qK, qD, qN.same rfl⟩, va_recv hK hPc (ci := 8) (q0 := 0) rfl rfl, fun U hU hW => ⟨rfl, by rw [hU], by rw [hU]; exact hPc, va_K.moved hW.alike hK, hDc.weaken (fun _ _ _ _ => trivial), hN.warm hW⟩⟩ rfl rfl hl.1 rfl (lv_room (Nat.le_of_ble_eq_true rfl)) dX8_limit_15 ⟨Nat.le_of_ble_eq_true rfl, Nat.le_of_ble_eq_true rfl⟩) hS (fun q _ h => hFc q h) hFc (fun r_6 u_7 t H1 locs ht hvm hw_8 hB hz1 hk1 hS => ?_)
    try dsimp only at hw_8 hB
    have po_9 := hw_8
    clear hw_8
    obtain ⟨hP1, hD1⟩ := hB
    rw [ht] at hP1
    obtain ⟨hP, hD⟩ := va_joinQ (wr := []) (w1 := [((ax 0), .inr (8, [.ref (ax 1), .ref (ax 7), .ref (ax 10), .ref (ax 11), .ref (ax 13), .ref (ax 15), .ref (ax 16), .ref (ax 21), .ref (ax 26), .ref (ax 27), .ref (ax 28), .int xNow, .int xEr, .int xTr, .int xMo, .int xFa, .int xRe])), ((ax 15), .inl (cA 5, 20, .inr (.inr (.inr (.inr gTr)))))]) hP hD [0, 1] [] rfl rfl (by decide) (by decide) hk1 hFc hP1 hD1
    clear hz1
    generalize H1 = H at hP hS ⊢
    replace hP : va_P (dC, dI) vwCl (([((ax 0), .inr (8, [.ref (ax 1), .ref (ax 7), .ref (ax 10), .ref (ax 11), .ref (ax 13), .ref (ax 15), .ref (ax 16), .ref (ax 21), .ref (ax 26), .ref (ax 27), .ref (ax 28), .int xNow, .int xEr, .int xTr, .int xMo, .int xFa, .int xRe])), ((ax 15), .inl (cA 5, 20, .inr (.inr (.inr (.inr gTr)))))] : va_W) ++ va_pl L pf) H := hP
    replace hD : va_D A (([((ax 0), .inr (8, [.ref (ax 1), .ref (ax 7), .ref (ax 10), .ref (ax 11), .ref (ax 13), .ref (ax 15), .ref (ax 16), .ref (ax 21), .ref (ax 26), .ref (ax 27), .ref (ax 28), .int xNow, .int xEr, .int xTr, .int xMo, .int xFa, .int xRe])), ((ax 15), .inl (cA 5, 20, .inr (.inr (.inr (.inr gTr)))))] : va_W) ++ va_pl L pf) := hD
    by_cases hT_10 : 0 ≤ tt.toInt ∧ tt.toInt < xTr.toInt
    · have hrq := po_9.1 hT_10
      obtain ⟨ndv_10, hnd_10⟩ : ∃ z : Int32, z = nd tt.toNatClampNeg := ⟨_, rfl⟩
      obtain ⟨slv_10, hsl_10⟩ : ∃ z : Int32, z = sl tt.toNatClampNeg := ⟨_, rfl⟩
      obtain ⟨t_10, hte_10, hok_10⟩ := TP_at (i := tt) hTP (by omega) (by omega)
      rw [← hnd_10, ← hsl_10] at hok_10
      have hok9 := hok_10
      obtain ⟨htm_10, s_10, v_10, m_10, lf_10, lt_10, he_10, htf_10, hso_10, hvm_10, ⟨kv_10, hvf_10⟩, hmm_10, km_10, hmf_10⟩ := hok9
      rw [hte_10] at hrq
      obtain rfl : r_6 = some t_10 := hrq
      refine W.eq (g2 := F0 m 18 ls [.ref t_10]) rfl ?_
      refine lv_astore_n (lv' := [(3, .ref t_10), (0, .ref (ax 0)), (1, .int tt), (2, .int n)]) hx hb dX8_limit_18 rfl hl (by decide) rfl (fun ls hl => ?_)
      refine lv_aload_n hx hb dX8_limit_19 rfl (lv_at hl 0 rfl) ?_
      refine lv_ifnonnull (tgt := 30) hx hb dX8_limit_20 (by decide) ?_
      refine lv_aload_n hx hb dX8_limit_30 rfl (lv_at hl 0 rfl) ?_
      obtain ⟨pk_11, hpk_11⟩ := va_pl_get (X := [((ax 0), .inr (8, [.ref (ax 1), .ref (ax 7), .ref (ax 10), .ref (ax 11), .ref (ax 13), .ref (ax 15), .ref (ax 16), .ref (ax 21), .ref (ax 26), .ref (ax 27), .ref (ax 28), .int xNow, .int xEr, .int xTr, .int xMo, .int xFa, .int xRe])), ((ax 15), .inl (cA 5, 20, .inr (.inr (.inr (.inr gTr)))))]) (f := pf) htm_10
      have gpk_11 := hpk_11
      rw [htf_10] at hpk_11
      refine va_getN (D := (dC, dI)) (ci := 6) (v := .int slv_10) (C := RX6) (T := TX6) (N := 8) hx hb hts hIX6 hown hK hP pk_11 hpk_11 rfl 6 (by decide) (va_Nw.use rfl (nw_at hN 28 rfl)) (fun _ h9 => h9) rfl dX8_limit_31 ?_
      refine lv_istore (lv' := [(4, .int slv_10), (3, .ref t_10), (0, .ref (ax 0)), (1, .int tt), (2, .int n)]) hx hb dX8_limit_34 hl (by decide) rfl (fun ls hl => ?_)
      refine lv_aload_n hx hb dX8_limit_36 rfl (lv_at hl 1 rfl) ?_
      refine lv_iload_n hx hb dX8_limit_37 rfl (lv_at hl 4 rfl) ?_
      obtain ⟨pk_12, hpk_12⟩ := va_pl_get (X := [((ax 0), .inr (8, [.ref (ax 1), .ref (ax 7), .ref (ax 10), .ref (ax 11), .ref (ax 13), .ref (ax 15), .ref (ax 16), .ref (ax 21), .ref (ax 26), .ref (ax 27), .ref (ax 28), .int xNow, .int xEr, .int xTr, .int xMo, .int xFa, .int xRe])), ((ax 15), .inl (cA 5, 20, .inr (.inr (.inr (.inr gTr)))))]) (f := pf) htm_10
      have gpk_12 := hpk_12
      rw [htf_10] at hpk_12
      have hD8 := hD
      refine va_putN (D := (dC, dI)) (ci := 6) (v := .int n) (ty := .int) (C := RX6) (T := TX6) (N := 8) hx hb hts hIX6 tyX6 tyX6_ok nmX6 hown hK hP hD hS pk_12 hpk_12 rfl 6 (by decide) (va_Nw.use rfl (nw_at hN 28 rfl)) (fun _ h9 => h9) rfl (by decide +kernel) rfl rfl (Nat.le_of_ble_eq_true rfl) dX8_limit_38 (fun H locs hP hD hS => ?_)
      obtain ⟨pf_13, epf_13⟩ : ∃ g : Nat → va_E, g = va_up pf t_10 (.inr (6, [.ref s_10, .int ndv_10, .ref v_10, .ref m_10, .long lf_10, .long lt_10, .int n, .int he_10])) := ⟨_, rfl⟩
      replace hP : va_P (dC, dI) vwCl ((([((ax 0), .inr (8, [.ref (ax 1), .ref (ax 7), .ref (ax 10), .ref (ax 11), .ref (ax 13), .ref (ax 15), .ref (ax 16), .ref (ax 21), .ref (ax 26), .ref (ax 27), .ref (ax 28), .int xNow, .int xEr, .int xTr, .int xMo, .int xFa, .int xRe])), ((ax 15), .inl (cA 5, 20, .inr (.inr (.inr (.inr gTr)))))] : va_W) ++ va_pl L pf).set pk_12 (t_10, .inr (6, [.ref s_10, .int ndv_10, .ref v_10, .ref m_10, .long lf_10, .long lt_10, .int n, .int he_10]))) H := hP
      replace hD : va_D A ((([((ax 0), .inr (8, [.ref (ax 1), .ref (ax 7), .ref (ax 10), .ref (ax 11), .ref (ax 13), .ref (ax 15), .ref (ax 16), .ref (ax 21), .ref (ax 26), .ref (ax 27), .ref (ax 28), .int xNow, .int xEr, .int xTr, .int xMo, .int xFa, .int xRe])), ((ax 15), .inl (cA 5, 20, .inr (.inr (.inr (.inr gTr)))))] : va_W) ++ va_pl L pf).set pk_12 (t_10, .inr (6, [.ref s_10, .int ndv_10, .ref v_10, .ref m_10, .long lf_10, .long lt_10, .int n, .int he_10]))) := hD
      rw [va_pl_set hD8 htm_10 gpk_12, ← epf_13] at hP hD
      have pe_14 : pf_13 t_10 = .inr (6, [.ref s_10, .int ndv_10, .ref v_10, .ref m_10, .long lf_10, .long lt_10, .int n, .int he_10]) := by rw [epf_13]; exact va_up_self _ _ _
      have pe_15 : pf_13 v_10 = .inl (cA 1, 20, .inr (.inl kv_10)) := by rw [epf_13, va_up_ne _ _ (fun q9 => by have z9 := hvf_10; rw [q9, htf_10] at z9; simp at z9)]; exact hvf_10
      have pe_16 : pf_13 m_10 = .inl (cA 0, 20, .inl km_10) := by rw [epf_13, va_up_ne _ _ (fun q9 => by have z9 := hmf_10; rw [q9, htf_10] at z9; simp at z9)]; exact hmf_10
      refine lv_aload_n hx hb dX8_limit_41 rfl (lv_at hl 2 rfl) ?_
      refine lv_iload hx hb dX8_limit_42 (lv_at hl 0 rfl) ?_
      obtain ⟨hPc, hDc, hFc, hCc⟩ := va_pre (ws' := [((ax 0), .inr (8, [.ref (ax 1), .ref (ax 7), .ref (ax 10), .ref (ax 11), .ref (ax 13), .ref (ax 15), .ref (ax 16), .ref (ax 21), .ref (ax 26), .ref (ax 27), .ref (ax 28), .int xNow, .int xEr, .int xTr, .int xMo, .int xFa, .int xRe]))]) hP hD hS hA [0] (by decide) rfl
      refine va_calli (va_runV (As := [.int slv_10]) (rest := []) ⟨hx, hb, hml, hown, hts⟩ (k_X8_settle l dC dI cA H.size ax xNow xEr xTr xMo xFa xRe slv_10 i_xNow i_xTr i_xMo) (cwV 1 hts gX8_limit_X8_settle rfl rfl rfl (by decide +kernel) ⟨Nat.le_of_ble_eq_true rfl, Nat.le_of_ble_eq_true rfl⟩) ⟨fun a U g mk q => by obtain ⟨q0, q1, qP, qK, qD, qN⟩ := q; exact ⟨q0, q1, qP, va_K.moved (u := U) (U := U.calling g mk a) (Vm.Alike.refl U.vm) qK, qD, qN.same rfl⟩, va_recv hK hPc (ci := 8) (q0 := 0) rfl rfl, fun U hU hW => ⟨rfl, by rw [hU], by rw [hU]; exact hPc, va_K.moved hW.alike hK, hDc.weaken (fun _ _ _ _ => trivial), hN.warm hW⟩⟩ rfl rfl hl.1 rfl (lv_room (Nat.le_of_ble_eq_true rfl)) dX8_limit_44 ⟨Nat.le_of_ble_eq_true rfl, Nat.le_of_ble_eq_true rfl⟩) hS (fun q _ h => hFc q h) hFc (fun r_17 u_18 t H1 locs ht hvm hw_19 hB hz1 hk1 hS => ?_)
      obtain ⟨w_20, rfl⟩ : ∃ z, z = u_18 := ⟨_, rfl⟩
      try dsimp only at hw_19 hB
      have hr9 := hw_19
      clear hw_19
      obtain ⟨hP1, hD1⟩ := hB
      rw [ht] at hP1
      obtain ⟨hP, hD⟩ := va_joinQ (wr := [((ax 15), .inl (cA 5, 20, .inr (.inr (.inr (.inr gTr)))))]) (w1 := [((ax 0), .inr (8, [.ref (ax 1), .ref (ax 7), .ref (ax 10), .ref (ax 11), .ref (ax 13), .ref (ax 15), .ref (ax 16), .ref (ax 21), .ref (ax 26), .ref (ax 27), .ref (ax 28), .int xNow, .int xEr, .int xTr, .int xMo, .int xFa, .int w_20]))]) hP hD [0] [1] rfl rfl (by decide) (by decide) hk1 hFc hP1 hD1
      clear hz1
      generalize H1 = H at hP hS ⊢
      replace hP : va_P (dC, dI) vwCl (([((ax 15), .inl (cA 5, 20, .inr (.inr (.inr (.inr gTr))))), ((ax 0), .inr (8, [.ref (ax 1), .ref (ax 7), .ref (ax 10), .ref (ax 11), .ref (ax 13), .ref (ax 15), .ref (ax 16), .ref (ax 21), .ref (ax 26), .ref (ax 27), .ref (ax 28), .int xNow, .int xEr, .int xTr, .int xMo, .int xFa, .int w_20]))] : va_W) ++ va_pl L pf_13) H := hP
      replace hD : va_D A (([((ax 15), .inl (cA 5, 20, .inr (.inr (.inr (.inr gTr))))), ((ax 0), .inr (8, [.ref (ax 1), .ref (ax 7), .ref (ax 10), .ref (ax 11), .ref (ax 13), .ref (ax 15), .ref (ax 16), .ref (ax 21), .ref (ax 26), .ref (ax 27), .ref (ax 28), .int xNow, .int xEr, .int xTr, .int xMo, .int xFa, .int w_20]))] : va_W) ++ va_pl L pf_13) := hD
      obtain rfl : slv_10 = r_17 := hr9.symm
      have hP9 := hP.part (cx := [((ax 0), .inr (8, [.ref (ax 1), .ref (ax 7), .ref (ax 10), .ref (ax 11), .ref (ax 13), .ref (ax 15), .ref (ax 16), .ref (ax 21), .ref (ax 26), .ref (ax 27), .ref (ax 28), .int xNow, .int xEr, .int xTr, .int xMo, .int xFa, .int w_20])), ((ax 15), .inl (cA 5, 20, .inr (.inr (.inr (.inr gTr)))))]) [1, 0] rfl
      have hD9 := hD.part (cx := [((ax 0), .inr (8, [.ref (ax 1), .ref (ax 7), .ref (ax 10), .ref (ax 11), .ref (ax 13), .ref (ax 15), .ref (ax 16), .ref (ax 21), .ref (ax 26), .ref (ax 27), .ref (ax 28), .int xNow, .int xEr, .int xTr, .int xMo, .int xFa, .int w_20])), ((ax 15), .inl (cA 5, 20, .inr (.inr (.inr (.inr gTr)))))]) [1, 0] (by decide) rfl
      subst hQe
      have hans : (slv_10 : Int32).toInt = slv_10.toInt := rfl
      have hpost : ((¬ (0 ≤ n.toInt ∧ n.toInt ≤ 100000) → (slv_10 : Int32).toInt = (-1) ∧ (upd sl tt.toNatClampNeg n) = sl) ∧ ((0 ≤ n.toInt ∧ n.toInt ≤ 100000) ∧ ¬ (0 ≤ tt.toInt ∧ tt.toInt < xTr.toInt) → (slv_10 : Int32).toInt = (-2) ∧ (upd sl tt.toNatClampNeg n) = sl) ∧ ((0 ≤ n.toInt ∧ n.toInt ≤ 100000) ∧ (0 ≤ tt.toInt ∧ tt.toInt < xTr.toInt) → (slv_10 : Int32) = sl tt.toNatClampNeg ∧ (upd sl tt.toNatClampNeg n) = upd sl tt.toNatClampNeg n)) ∧ (TP cA xTr gTr L pf_13 nd (upd sl tt.toNatClampNeg n)) := ⟨⟨fun h => by exfalso; omega, fun h => by exfalso; omega, fun _ => ⟨hsl_10, rfl⟩⟩, (TP_limit hTP (by omega) (by omega) hte_10 htf_10 epf_13)⟩
      exact W.iret (v := slv_10) hx hb hr (fun t ht hW => ⟨⟨slv_10, (pf_13, w_20, (upd sl tt.toNatClampNeg n)), rfl, hpost, by rw [ht]; exact hP9, hD9⟩, hS.F ht⟩) hS.2.2 dX8_limit_47
    · have hrq := po_9.2 hT_10
      obtain rfl : r_6 = none := hrq
      refine W.eq (g2 := F0 m 18 ls [.null]) rfl ?_
      refine lv_astore_nN (lv' := [(3, .null), (0, .ref (ax 0)), (1, .int tt), (2, .int n)]) hx hb dX8_limit_18 rfl hl (by decide) rfl (fun ls hl => ?_)
      refine lv_aload_nN hx hb dX8_limit_19 rfl (lv_at hl 0 rfl) ?_
      refine lv_ifnonnullN hx hb dX8_limit_20 ?_
      refine lv_aload_n hx hb dX8_limit_23 rfl (lv_at hl 1 rfl) ?_
      refine lv_bipush (v := (-2)) hx hb dX8_limit_24 (by decide) ?_
      have hk_21 : ((-2) : Int32).toInt = (-2) := by decide
      obtain ⟨hPc, hDc, hFc, hCc⟩ := va_pre (ws' := [((ax 0), .inr (8, [.ref (ax 1), .ref (ax 7), .ref (ax 10), .ref (ax 11), .ref (ax 13), .ref (ax 15), .ref (ax 16), .ref (ax 21), .ref (ax 26), .ref (ax 27), .ref (ax 28), .int xNow, .int xEr, .int xTr, .int xMo, .int xFa, .int xRe]))]) hP hD hS hA [0] (by decide) rfl
      refine va_calli (va_runV (As := [.int (-2)]) (rest := []) ⟨hx, hb, hml, hown, hts⟩ (k_X8_settle l dC dI cA H.size ax xNow xEr xTr xMo xFa xRe (-2) i_xNow i_xTr i_xMo) (cwV 1 hts gX8_limit_X8_settle rfl rfl rfl (by decide +kernel) ⟨Nat.le_of_ble_eq_true rfl, Nat.le_of_ble_eq_true rfl⟩) ⟨fun a U g mk q => by obtain ⟨q0, q1, qP, qK, qD, qN⟩ := q; exact ⟨q0, q1, qP, va_K.moved (u := U) (U := U.calling g mk a) (Vm.Alike.refl U.vm) qK, qD, qN.same rfl⟩, va_recv hK hPc (ci := 8) (q0 := 0) rfl rfl, fun U hU hW => ⟨rfl, by rw [hU], by rw [hU]; exact hPc, va_K.moved hW.alike hK, hDc.weaken (fun _ _ _ _ => trivial), hN.warm hW⟩⟩ rfl rfl hl.1 rfl (lv_room (Nat.le_of_ble_eq_true rfl)) dX8_limit_26 ⟨Nat.le_of_ble_eq_true rfl, Nat.le_of_ble_eq_true rfl⟩) hS (fun q _ h => hFc q h) hFc (fun r_22 u_23 t H1 locs ht hvm hw_24 hB hz1 hk1 hS => ?_)
      obtain ⟨w_25, rfl⟩ : ∃ z, z = u_23 := ⟨_, rfl⟩
      try dsimp only at hw_24 hB
      have hr9 := hw_24
      clear hw_24
      obtain ⟨hP1, hD1⟩ := hB
      rw [ht] at hP1
      obtain ⟨hP, hD⟩ := va_joinQ (wr := [((ax 15), .inl (cA 5, 20, .inr (.inr (.inr (.inr gTr)))))]) (w1 := [((ax 0), .inr (8, [.ref (ax 1), .ref (ax 7), .ref (ax 10), .ref (ax 11), .ref (ax 13), .ref (ax 15), .ref (ax 16), .ref (ax 21), .ref (ax 26), .ref (ax 27), .ref (ax 28), .int xNow, .int xEr, .int xTr, .int xMo, .int xFa, .int w_25]))]) hP hD [0] [1] rfl rfl (by decide) (by decide) hk1 hFc hP1 hD1
      clear hz1
      generalize H1 = H at hP hS ⊢
      replace hP : va_P (dC, dI) vwCl (([((ax 15), .inl (cA 5, 20, .inr (.inr (.inr (.inr gTr))))), ((ax 0), .inr (8, [.ref (ax 1), .ref (ax 7), .ref (ax 10), .ref (ax 11), .ref (ax 13), .ref (ax 15), .ref (ax 16), .ref (ax 21), .ref (ax 26), .ref (ax 27), .ref (ax 28), .int xNow, .int xEr, .int xTr, .int xMo, .int xFa, .int w_25]))] : va_W) ++ va_pl L pf) H := hP
      replace hD : va_D A (([((ax 15), .inl (cA 5, 20, .inr (.inr (.inr (.inr gTr))))), ((ax 0), .inr (8, [.ref (ax 1), .ref (ax 7), .ref (ax 10), .ref (ax 11), .ref (ax 13), .ref (ax 15), .ref (ax 16), .ref (ax 21), .ref (ax 26), .ref (ax 27), .ref (ax 28), .int xNow, .int xEr, .int xTr, .int xMo, .int xFa, .int w_25]))] : va_W) ++ va_pl L pf) := hD
      obtain rfl : (-2) = r_22 := hr9.symm
      have hP9 := hP.part (cx := [((ax 0), .inr (8, [.ref (ax 1), .ref (ax 7), .ref (ax 10), .ref (ax 11), .ref (ax 13), .ref (ax 15), .ref (ax 16), .ref (ax 21), .ref (ax 26), .ref (ax 27), .ref (ax 28), .int xNow, .int xEr, .int xTr, .int xMo, .int xFa, .int w_25])), ((ax 15), .inl (cA 5, 20, .inr (.inr (.inr (.inr gTr)))))]) [1, 0] rfl
      have hD9 := hD.part (cx := [((ax 0), .inr (8, [.ref (ax 1), .ref (ax 7), .ref (ax 10), .ref (ax 11), .ref (ax 13), .ref (ax 15), .ref (ax 16), .ref (ax 21), .ref (ax 26), .ref (ax 27), .ref (ax 28), .int xNow, .int xEr, .int xTr, .int xMo, .int xFa, .int w_25])), ((ax 15), .inl (cA 5, 20, .inr (.inr (.inr (.inr gTr)))))]) [1, 0] (by decide) rfl
      subst hQe
      have hans : ((-2) : Int32).toInt = (-2) := (by decide)
      have hpost : ((¬ (0 ≤ n.toInt ∧ n.toInt ≤ 100000) → ((-2) : Int32).toInt = (-1) ∧ sl = sl) ∧ ((0 ≤ n.toInt ∧ n.toInt ≤ 100000) ∧ ¬ (0 ≤ tt.toInt ∧ tt.toInt < xTr.toInt) → ((-2) : Int32).toInt = (-2) ∧ sl = sl) ∧ ((0 ≤ n.toInt ∧ n.toInt ≤ 100000) ∧ (0 ≤ tt.toInt ∧ tt.toInt < xTr.toInt) → ((-2) : Int32) = sl tt.toNatClampNeg ∧ sl = upd sl tt.toNatClampNeg n)) ∧ (TP cA xTr gTr L pf nd sl) := ⟨⟨fun h => by exfalso; omega, fun _ => ⟨by omega, rfl⟩, fun h => by exfalso; omega⟩, hTP⟩
      exact W.iret (v := (-2)) hx hb hr (fun t ht hW => ⟨⟨(-2), (pf, w_25, sl), rfl, hpost, by rw [ht]; exact hP9, hD9⟩, hS.F ht⟩) hS.2.2 dX8_limit_29
  · have dc_5 : r_1.toInt = 0 := jI_eq c_5 rfl (by decide)
    refine lv_aload_n hx hb dX8_limit_7 rfl (lv_at hl 0 rfl) ?_
    refine lv_iconst (v := (-1)) hx hb dX8_limit_8 (by decide) ?_
    have hk_26 : ((-1) : Int32).toInt = (-1) := by decide
    obtain ⟨hPc, hDc, hFc, hCc⟩ := va_pre (ws' := [((ax 0), .inr (8, [.ref (ax 1), .ref (ax 7), .ref (ax 10), .ref (ax 11), .ref (ax 13), .ref (ax 15), .ref (ax 16), .ref (ax 21), .ref (ax 26), .ref (ax 27), .ref (ax 28), .int xNow, .int xEr, .int xTr, .int xMo, .int xFa, .int xRe]))]) hP hD hS hA [0] (by decide) rfl
    refine va_calli (va_runV (As := [.int (-1)]) (rest := []) ⟨hx, hb, hml, hown, hts⟩ (k_X8_settle l dC dI cA H.size ax xNow xEr xTr xMo xFa xRe (-1) i_xNow i_xTr i_xMo) (cwV 1 hts gX8_limit_X8_settle rfl rfl rfl (by decide +kernel) ⟨Nat.le_of_ble_eq_true rfl, Nat.le_of_ble_eq_true rfl⟩) ⟨fun a U g mk q => by obtain ⟨q0, q1, qP, qK, qD, qN⟩ := q; exact ⟨q0, q1, qP, va_K.moved (u := U) (U := U.calling g mk a) (Vm.Alike.refl U.vm) qK, qD, qN.same rfl⟩, va_recv hK hPc (ci := 8) (q0 := 0) rfl rfl, fun U hU hW => ⟨rfl, by rw [hU], by rw [hU]; exact hPc, va_K.moved hW.alike hK, hDc.weaken (fun _ _ _ _ => trivial), hN.warm hW⟩⟩ rfl rfl hl.1 rfl (lv_room (Nat.le_of_ble_eq_true rfl)) dX8_limit_9 ⟨Nat.le_of_ble_eq_true rfl, Nat.le_of_ble_eq_true rfl⟩) hS (fun q _ h => hFc q h) hFc (fun r_27 u_28 t H1 locs ht hvm hw_29 hB hz1 hk1 hS => ?_)
    obtain ⟨w_30, rfl⟩ : ∃ z, z = u_28 := ⟨_, rfl⟩
    try dsimp only at hw_29 hB
    have hr9 := hw_29
    clear hw_29
    obtain ⟨hP1, hD1⟩ := hB
    rw [ht] at hP1
    obtain ⟨hP, hD⟩ := va_joinQ (wr := [((ax 15), .inl (cA 5, 20, .inr (.inr (.inr (.inr gTr)))))]) (w1 := [((ax 0), .inr (8, [.ref (ax 1), .ref (ax 7), .ref (ax 10), .ref (ax 11), .ref (ax 13), .ref (ax 15), .ref (ax 16), .ref (ax 21), .ref (ax 26), .ref (ax 27), .ref (ax 28), .int xNow, .int xEr, .int xTr, .int xMo, .int xFa, .int w_30]))]) hP hD [0] [1] rfl rfl (by decide) (by decide) hk1 hFc hP1 hD1
    clear hz1
    generalize H1 = H at hP hS ⊢
    replace hP : va_P (dC, dI) vwCl (([((ax 15), .inl (cA 5, 20, .inr (.inr (.inr (.inr gTr))))), ((ax 0), .inr (8, [.ref (ax 1), .ref (ax 7), .ref (ax 10), .ref (ax 11), .ref (ax 13), .ref (ax 15), .ref (ax 16), .ref (ax 21), .ref (ax 26), .ref (ax 27), .ref (ax 28), .int xNow, .int xEr, .int xTr, .int xMo, .int xFa, .int w_30]))] : va_W) ++ va_pl L pf) H := hP
    replace hD : va_D A (([((ax 15), .inl (cA 5, 20, .inr (.inr (.inr (.inr gTr))))), ((ax 0), .inr (8, [.ref (ax 1), .ref (ax 7), .ref (ax 10), .ref (ax 11), .ref (ax 13), .ref (ax 15), .ref (ax 16), .ref (ax 21), .ref (ax 26), .ref (ax 27), .ref (ax 28), .int xNow, .int xEr, .int xTr, .int xMo, .int xFa, .int w_30]))] : va_W) ++ va_pl L pf) := hD
    obtain rfl : (-1) = r_27 := hr9.symm
    have hP9 := hP.part (cx := [((ax 0), .inr (8, [.ref (ax 1), .ref (ax 7), .ref (ax 10), .ref (ax 11), .ref (ax 13), .ref (ax 15), .ref (ax 16), .ref (ax 21), .ref (ax 26), .ref (ax 27), .ref (ax 28), .int xNow, .int xEr, .int xTr, .int xMo, .int xFa, .int w_30])), ((ax 15), .inl (cA 5, 20, .inr (.inr (.inr (.inr gTr)))))]) [1, 0] rfl
    have hD9 := hD.part (cx := [((ax 0), .inr (8, [.ref (ax 1), .ref (ax 7), .ref (ax 10), .ref (ax 11), .ref (ax 13), .ref (ax 15), .ref (ax 16), .ref (ax 21), .ref (ax 26), .ref (ax 27), .ref (ax 28), .int xNow, .int xEr, .int xTr, .int xMo, .int xFa, .int w_30])), ((ax 15), .inl (cA 5, 20, .inr (.inr (.inr (.inr gTr)))))]) [1, 0] (by decide) rfl
    subst hQe
    have hans : ((-1) : Int32).toInt = (-1) := (by decide)
    have hpost : ((¬ (0 ≤ n.toInt ∧ n.toInt ≤ 100000) → ((-1) : Int32).toInt = (-1) ∧ sl = sl) ∧ ((0 ≤ n.toInt ∧ n.toInt ≤ 100000) ∧ ¬ (0 ≤ tt.toInt ∧ tt.toInt < xTr.toInt) → ((-1) : Int32).toInt = (-2) ∧ sl = sl) ∧ ((0 ≤ n.toInt ∧ n.toInt ≤ 100000) ∧ (0 ≤ tt.toInt ∧ tt.toInt < xTr.toInt) → ((-1) : Int32) = sl tt.toNatClampNeg ∧ sl = upd sl tt.toNatClampNeg n)) ∧ (TP cA xTr gTr L pf nd sl) := ⟨⟨fun _ => ⟨by omega, rfl⟩, fun h => by exfalso; omega, fun h => by exfalso; omega⟩, hTP⟩
    exact W.iret (v := (-1)) hx hb hr (fun t ht hW => ⟨⟨(-1), (pf, w_30, sl), rfl, hpost, by rw [ht]; exact hP9, hD9⟩, hS.F ht⟩) hS.2.2 dX8_limit_12
