theorem TP_limit {cA : Nat → ClassId} {n tt x : Int32} {fTr : Nat → Option Nat} {L : List Nat} {f g : Nat → va_E} {nd sl : Nat → Int32} {t s v m : Nat} {nd1 sl1 he : Int32} {lf lt : Int64} (h : TP cA n fTr L f nd sl) (h0 : 0 ≤ tt.toInt) (h1 : tt.toInt < n.toInt) (ht : fTr tt.toNatClampNeg = some t) (hf : f t = .inr (6, [.ref s, .int nd1, .ref v, .ref m, .long lf, .long lt, .int sl1, .int he])) (eg : g = va_up f t (.inr (6, [.ref s, .int nd1, .ref v, .ref m, .long lf, .long lt, .int x, .int he]))) : TP cA n fTr L g nd (upd sl tt.toNatClampNeg x) := by
  have e0 : tt.toNatClampNeg = tt.toInt.toNat := rfl
  refine ⟨fun k hk => ?_, h.2⟩
  obtain ⟨t', hk1, hm, s', v', m', lf', lt', he', hft, hs, hv, ⟨kv, hkv⟩, hmm, ⟨km, hkm⟩⟩ := h.1 k hk
  have nl : ∀ {a : Nat} {e : ClassId × vp_A}, f a = .inl e → g a = .inl e := by
    intro a e q
    rw [eg, va_up_ne _ _ (fun z => by rw [z, hf] at q; cases q)]; exact q
  have n4 : ∀ {a : Nat}, stepOk L f a → stepOk L g a := by
    intro a ⟨q1, kd, nb, fr, to, q2, q3⟩
    refine ⟨q1, kd, nb, fr, to, ?_, q3⟩
    rw [eg, va_up_ne _ _ (fun z => by rw [z, hf] at q2; simp at q2)]; exact q2
  have hs' : stepsOk cA L g s' := by
    obtain ⟨q1, sn, sg, q2, q3, q4⟩ := hs
    exact ⟨q1, sn, sg, nl q2, q3, fun j hj => by obtain ⟨a, w1, w2⟩ := q4 j hj; exact ⟨a, w1, n4 w2⟩⟩
  by_cases hkt : k = tt.toNatClampNeg
  · subst hkt
    have e1 : t' = t := Option.some.inj (hk1.symm.trans ht)
    subst e1
    rw [hf] at hft
    simp only [Sum.inr.injEq, Prod.mk.injEq, List.cons.injEq, Value.ref.injEq, Value.int.injEq, Value.long.injEq, true_and, and_true] at hft
    obtain ⟨rfl, rfl, rfl, rfl, rfl, rfl, rfl, rfl⟩ := hft
    refine ⟨t', hk1, hm, s, v, m, lf, lt, he, ?_, hs', hv, ⟨kv, nl hkv⟩, hmm, ⟨km, nl hkm⟩⟩
    rw [eg, va_up_self, pk_us]
  · have hne : t' ≠ t := fun q => hkt (h.2 k _ hk (by omega) (by rw [hk1, ht, q]))
    refine ⟨t', hk1, hm, s', v', m', lf', lt', he', ?_, hs', hv, ⟨kv, nl hkv⟩, hmm, ⟨km, nl hkm⟩⟩
    rw [eg, va_up_ne _ _ hne, pk_un hkt]; exact hft

set_option maxHeartbeats 8000000 in
set_option maxRecDepth 100000 in
theorem k_X8_limit (l : Launch) (dC : Nat → ClassId) (dI : Nat → Nat → Nat) (cA : Nat → ClassId) (sz : Nat) (ax : Nat → Nat) (xNow : Int32) (xEr : Int32) (xTr : Int32) (xMo : Int32) (xFa : Int32) (xRe : Int32) (gTr : Nat → Option Nat) (L : List Nat) (pf : Nat → va_E) (tt : Int32) (n : Int32) (nd : Nat → Int32) (sl : Nat → Int32) (i_xNow : 0 ≤ xNow.toInt ∧ xNow.toInt ≤ 100000) (i_xTr : 0 ≤ xTr.toInt ∧ xTr.toInt ≤ 20) (i_xMo : 0 ≤ xMo.toInt ∧ xMo.toInt ≤ 10) (hTP : TP cA xTr gTr L pf nd sl) : Met l yX8_limit wsX8_limit ({ frames := 2, cells := 0, slots := 0, locals := 44 }) (va_Pc [.ref (ax 0), .int tt, .int n] (fun U => U.heap.size = sz ∧ va_P (dC, dI) vwCl (([((ax 0), .inr (8, [.ref (ax 1), .ref (ax 7), .ref (ax 10), .ref (ax 11), .ref (ax 13), .ref (ax 15), .ref (ax 16), .ref (ax 21), .ref (ax 26), .ref (ax 27), .ref (ax 28), .int xNow, .int xEr, .int xTr, .int xMo, .int xFa, .int xRe])), ((ax 15), .inl (cA 5, 20, .inr (.inr (.inr (.inr gTr)))))] : va_W) ++ va_pl L pf) U.heap ∧ va_K (dC, dI) vwCl (tyL cA) U ∧ va_D (fun _ => True) (([((ax 0), .inr (8, [.ref (ax 1), .ref (ax 7), .ref (ax 10), .ref (ax 11), .ref (ax 13), .ref (ax 15), .ref (ax 16), .ref (ax 21), .ref (ax 26), .ref (ax 27), .ref (ax 28), .int xNow, .int xEr, .int xTr, .int xMo, .int xFa, .int xRe])), ((ax 15), .inl (cA 5, 20, .inr (.inr (.inr (.inr gTr)))))] : va_W) ++ va_pl L pf) ∧ nw_ok U)) (va_Qi (fun (r : Int32) (u : (Nat → va_E) × Int32 × (Nat → Int32)) => ((¬ (0 ≤ n.toInt ∧ n.toInt ≤ 100000) → r.toInt = (-1) ∧ u.2.2 = sl) ∧ ((0 ≤ n.toInt ∧ n.toInt ≤ 100000) ∧ ¬ (0 ≤ tt.toInt ∧ tt.toInt < xTr.toInt) → r.toInt = (-2) ∧ u.2.2 = sl) ∧ ((0 ≤ n.toInt ∧ n.toInt ≤ 100000) ∧ (0 ≤ tt.toInt ∧ tt.toInt < xTr.toInt) → r = sl tt.toNatClampNeg ∧ u.2.2 = upd sl tt.toNatClampNeg n)) ∧ (TP cA xTr gTr L u.1 nd u.2.2)) (fun (u : (Nat → va_E) × Int32 × (Nat → Int32)) (t : State) => va_P (dC, dI) vwCl (([((ax 0), .inr (8, [.ref (ax 1), .ref (ax 7), .ref (ax 10), .ref (ax 11), .ref (ax 13), .ref (ax 15), .ref (ax 16), .ref (ax 21), .ref (ax 26), .ref (ax 27), .ref (ax 28), .int xNow, .int xEr, .int xTr, .int xMo, .int xFa, .int u.2.1])), ((ax 15), .inl (cA 5, 20, .inr (.inr (.inr (.inr gTr)))))] : va_W) ++ va_pl L u.1) t.heap ∧ va_D (va_A (([((ax 0), .inr (8, [.ref (ax 1), .ref (ax 7), .ref (ax 10), .ref (ax 11), .ref (ax 13), .ref (ax 15), .ref (ax 16), .ref (ax 21), .ref (ax 26), .ref (ax 27), .ref (ax 28), .int xNow, .int xEr, .int xTr, .int xMo, .int xFa, .int xRe])), ((ax 15), .inl (cA 5, 20, .inr (.inr (.inr (.inr gTr)))))] : va_W) ++ va_pl L pf) sz) (([((ax 0), .inr (8, [.ref (ax 1), .ref (ax 7), .ref (ax 10), .ref (ax 11), .ref (ax 13), .ref (ax 15), .ref (ax 16), .ref (ax 21), .ref (ax 26), .ref (ax 27), .ref (ax 28), .int xNow, .int xEr, .int xTr, .int xMo, .int xFa, .int u.2.1])), ((ax 15), .inl (cA 5, 20, .inr (.inr (.inr (.inr gTr)))))] : va_W) ++ va_pl L u.1)) (va_A (([((ax 0), .inr (8, [.ref (ax 1), .ref (ax 7), .ref (ax 10), .ref (ax 11), .ref (ax 13), .ref (ax 15), .ref (ax 16), .ref (ax 21), .ref (ax 26), .ref (ax 27), .ref (ax 28), .int xNow, .int xEr, .int xTr, .int xMo, .int xFa, .int xRe])), ((ax 15), .inl (cA 5, 20, .inr (.inr (.inr (.inr gTr)))))] : va_W) ++ va_pl L pf) sz)) 0 0 (va_A (([((ax 0), .inr (8, [.ref (ax 1), .ref (ax 7), .ref (ax 10), .ref (ax 11), .ref (ax 13), .ref (ax 15), .ref (ax 16), .ref (ax 21), .ref (ax 26), .ref (ax 27), .ref (ax 28), .int xNow, .int xEr, .int xTr, .int xMo, .int xFa, .int xRe])), ((ax 15), .inl (cA 5, 20, .inr (.inr (.inr (.inr gTr)))))] : va_W) ++ va_pl L pf) sz) := by
  sorry
