/-! a trait is made: its cells join the pool -/
theorem cp_step {g g' gS : Nat → Option Nat} {i i' : Int32} {a : Nat} (h : ∀ j : Nat, (j : Int) < i.toInt → g j = gS j) (eg : g' = va_up g i.toNatClampNeg (some a)) (ha : gS i.toNatClampNeg = some a) (h0 : 0 ≤ i.toInt) (hi : i'.toInt = i.toInt + 1) : ∀ j : Nat, (j : Int) < i'.toInt → g' j = gS j := by
  intro j hj
  have e : i.toNatClampNeg = i.toInt.toNat := rfl
  rw [eg]
  by_cases q : j = i.toNatClampNeg
  · subst q; rw [va_up_self, ha]
  · rw [va_up_ne _ _ q]; exact h j (by omega)
theorem stq_all {z' : Int} {g g' : Nat → Option Nat} {L0 L : List Nat} {f fm : Nat → va_E} (h : stq (Int32.toInt 0) z' g g' L f) (hm : ∀ a, a ∈ L → fm a = f a) : ∀ j : Nat, (j : Int) < z' → ∃ a, g' j = some a ∧ stepOk (L0 ++ L) fm a := by
  intro j hj
  have z : (0 : Int32).toInt = 0 := by decide
  obtain ⟨a, h1, h2⟩ := h.2.2.1 j (by rw [z]; omega) hj
  exact ⟨a, h1, step_sub h2 (fun w => List.mem_append_right _ w) (hm a h2.1)⟩
theorem steps_ext {cA : Nat → ClassId} {L L' : List Nat} {f f' : Nat → va_E} {s : Nat} (h : stepsOk cA L f s) (he : ∀ a, a ∈ L → a ∈ L' ∧ f' a = f a) : stepsOk cA L' f' s := by
  obtain ⟨h1, n, g, h2, h3, h4⟩ := h
  refine ⟨(he s h1).1, n, g, (he s h1).2.trans h2, h3, fun j hj => ?_⟩
  obtain ⟨a, w1, w2⟩ := h4 j hj
  exact ⟨a, w1, step_sub w2 (fun w => (he a w).1) (he a w2.1).2⟩
theorem trait_ext {cA : Nat → ClassId} {L L' : List Nat} {f f' : Nat → va_E} {t : Nat} {nd sl : Int32} (h : traitOk cA L f t nd sl) (he : ∀ a, a ∈ L → a ∈ L' ∧ f' a = f a) : traitOk cA L' f' t nd sl := by
  obtain ⟨h1, s, v, m, lf, lt, hl, h2, h3, h4, ⟨kv, h5⟩, h6, ⟨km, h7⟩⟩ := h
  exact ⟨(he t h1).1, s, v, m, lf, lt, hl, (he t h1).2.trans h2, steps_ext h3 he, (he v h4).1, ⟨kv, (he v h4).2.trans h5⟩, (he m h6).1, ⟨km, (he m h6).2.trans h7⟩⟩
theorem TP_ext {cA : Nat → ClassId} {n : Int32} {fTr : Nat → Option Nat} {L L' : List Nat} {f f' : Nat → va_E} {nd sl : Nat → Int32} (h : TP cA n fTr L f nd sl) (he : ∀ a, a ∈ L → a ∈ L' ∧ f' a = f a) : TP cA n fTr L' f' nd sl := by
  refine ⟨fun k hk => ?_, h.2⟩
  obtain ⟨t, h1, h2⟩ := h.1 k hk
  exact ⟨t, h1, trait_ext h2 he⟩
theorem TP_new {cA : Nat → ClassId} {n n' : Int32} {fTr fTr' : Nat → Option Nat} {L L' : List Nat} {f f' : Nat → va_E} {nd sl : Nat → Int32} {t : Nat} {ndx slx : Int32} (h : TP cA n fTr L f nd sl) (h0 : 0 ≤ n.toInt) (hn : n'.toInt = n.toInt + 1) (eT : fTr' = va_up fTr n.toNatClampNeg (some t)) (he : ∀ a, a ∈ L → a ∈ L' ∧ f' a = f a) (hnt : t ∉ L) (hok : traitOk cA L' f' t ndx slx) : TP cA n' fTr' L' f' (upd nd n.toNatClampNeg ndx) (upd sl n.toNatClampNeg slx) := by
  have e0 : n.toNatClampNeg = n.toInt.toNat := rfl
  have hx := TP_ext h he
  have old : ∀ k : Nat, (k : Int) < n.toInt → fTr' k = fTr k := fun k hk => by rw [eT, va_up_ne _ _ (by omega)]
  have new : fTr' n.toNatClampNeg = some t := by rw [eT, va_up_self]
  have nin : ∀ k : Nat, (k : Int) < n.toInt → fTr k ≠ some t := by
    intro k hk q
    obtain ⟨t', w1, w2⟩ := h.1 k hk
    exact hnt (by rw [q] at w1; rw [Option.some.inj w1]; exact w2.1)
  refine ⟨fun k hk => ?_, fun i j hi hj e => ?_⟩
  · by_cases q : k = n.toNatClampNeg
    · subst q
      rw [pk_us, pk_us]
      exact ⟨t, new, hok⟩
    · rw [pk_un q, pk_un q, old k (by omega)]
      exact hx.1 k (by omega)
  · by_cases qi : i = n.toNatClampNeg
    · by_cases qj : j = n.toNatClampNeg
      · rw [qi, qj]
      · exfalso
        rw [qi, new, old j (by omega)] at e
        exact nin j (by omega) e.symm
    · by_cases qj : j = n.toNatClampNeg
      · exfalso
        rw [qj, new, old i (by omega)] at e
        exact nin i (by omega) e
      · rw [old i (by omega), old j (by omega)] at e
        exact h.2 i j (by omega) (by omega) e
theorem pl_add4 {D : va_G} {cl : List vw_C} {A : Nat → Prop} {X : va_W} {L : List Nat} {f : Nat → va_E} {H : Heap} {t s v m : Nat} {eT eS eV eM : va_E} (hP : va_P D cl ((X ++ [(t, eT), (s, eS), (v, eV), (m, eM)]) ++ va_pl L f) H) (hD : va_D A ((X ++ [(t, eT), (s, eS), (v, eV), (m, eM)]) ++ va_pl L f)) : ∃ f' : Nat → va_E, (∀ a, a ∈ L → a ∈ L ++ [t, s, v, m] ∧ f' a = f a) ∧ (f' t = eT ∧ f' s = eS ∧ f' v = eV ∧ f' m = eM) ∧ t ∉ L ∧ va_P D cl (X ++ va_pl (L ++ [t, s, v, m]) f') H ∧ va_D A (X ++ va_pl (L ++ [t, s, v, m]) f') := by
  have hn := (va_D_nd.mp hD).1
  rw [List.map_append, List.map_append] at hn
  obtain ⟨h1, -, h2⟩ := List.nodup_append.mp hn
  obtain ⟨-, h3, -⟩ := List.nodup_append.mp h1
  simp only [List.map_cons, List.map_nil, List.nodup_cons, List.mem_cons, List.not_mem_nil, or_false, not_or] at h3
  obtain ⟨⟨q1, q2, q3⟩, ⟨q4, q5⟩, q6, -⟩ := h3
  have hL : ∀ a, a ∈ L → a ∈ (va_pl L f).map Prod.fst := fun a ha => by unfold va_pl; rw [List.map_map]; exact List.mem_map.mpr ⟨a, ha, rfl⟩
  have hno : ∀ b, b ∈ ([(t, eT), (s, eS), (v, eV), (m, eM)] : va_W).map Prod.fst → b ∉ L := fun b hb hbL => h2 b (List.mem_append_right _ hb) b (hL b hbL) rfl
  have other : ∀ {a b : Nat}, b ∉ L → a ∈ L → ¬ a = b := fun h1 h2 q => h1 (by rw [← q]; exact h2)
  have nt : t ∉ L := hno t (by simp)
  have ns : s ∉ L := hno s (by simp)
  have nv : v ∉ L := hno v (by simp)
  have nm : m ∉ L := hno m (by simp)
  refine ⟨fun a => if a = t then eT else if a = s then eS else if a = v then eV else if a = m then eM else f a, fun a ha => ⟨List.mem_append_left _ ha, ?_⟩, ⟨?_, ?_, ?_, ?_⟩, nt, ?_⟩
  · show (if a = t then eT else if a = s then eS else if a = v then eV else if a = m then eM else f a) = f a
    rw [if_neg (other nt ha), if_neg (other ns ha), if_neg (other nv ha), if_neg (other nm ha)]
  · show (if t = t then eT else _) = eT
    rw [if_pos rfl]
  · show (if s = t then eT else if s = s then eS else _) = eS
    rw [if_neg (Ne.symm q1), if_pos rfl]
  · show (if v = t then eT else if v = s then eS else if v = v then eV else _) = eV
    rw [if_neg (Ne.symm q2), if_neg (Ne.symm q4), if_pos rfl]
  · show (if m = t then eT else if m = s then eS else if m = v then eV else if m = m then eM else _) = eM
    rw [if_neg (Ne.symm q3), if_neg (Ne.symm q5), if_neg (Ne.symm q6), if_pos rfl]
  · have e : va_pl (L ++ [t, s, v, m]) (fun a => if a = t then eT else if a = s then eS else if a = v then eV else if a = m then eM else f a) = va_pl L f ++ [(t, eT), (s, eS), (v, eV), (m, eM)] := by
      unfold va_pl
      rw [List.map_append]
      congr 1
      · apply List.map_congr_left
        intro a ha
        show (a, (if a = t then eT else if a = s then eS else if a = v then eV else if a = m then eM else f a)) = (a, f a)
        rw [if_neg (other nt ha), if_neg (other ns ha), if_neg (other nv ha), if_neg (other nm ha)]
      · simp only [List.map_cons, List.map_nil, if_true]
        rw [if_neg (Ne.symm q1), if_neg (Ne.symm q2), if_neg (Ne.symm q4), if_neg (Ne.symm q3), if_neg (Ne.symm q5), if_neg (Ne.symm q6)]
    rw [e]
    have hp : (X ++ (va_pl L f ++ [(t, eT), (s, eS), (v, eV), (m, eM)])).Perm ((X ++ [(t, eT), (s, eS), (v, eV), (m, eM)]) ++ va_pl L f) := by
      rw [List.append_assoc]
      exact List.Perm.append_left _ List.perm_append_comm
    exact ⟨va_P_mem hP (fun q hq => hp.mem_iff.mp hq), va_D_perm hD hp⟩
theorem jnb_int {N : Nat} (h : N ≤ 100000) : N * componentBytes .int ≤ 536870912 := by
  have e : componentBytes .int = 4 := rfl
  rw [e]; omega
theorem jnb_boolean {N : Nat} (h : N ≤ 100000) : N * componentBytes .boolean ≤ 536870912 := by
  have e : componentBytes .boolean = 1 := rfl
  rw [e]; omega
theorem jnb_byte {N : Nat} (h : N ≤ 100000) : N * componentBytes .byte ≤ 536870912 := by
  have e : componentBytes .byte = 1 := rfl
  rw [e]; omega
theorem jnb_long {N : Nat} (h : N ≤ 100000) : N * componentBytes .long ≤ 536870912 := by
  have e : componentBytes .long = 8 := rfl
  rw [e]; omega
theorem jnew_int (N : Nat) : ∀ cA : ClassId, vp_cell cA (N, .inl (fun _ => 0)) = arrV cA N (fun _ => defaultValue .int) := fun _ => rfl
theorem jnew_boolean (N : Nat) : ∀ cA : ClassId, vp_cell cA (N, .inl (fun _ => 0)) = arrV cA N (fun _ => defaultValue .boolean) := fun _ => rfl
theorem jnew_byte (N : Nat) : ∀ cA : ClassId, vp_cell cA (N, .inl (fun _ => 0)) = arrV cA N (fun _ => defaultValue .byte) := fun _ => rfl
theorem jnew_long (N : Nat) : ∀ cA : ClassId, vp_cell cA (N, .inr (.inl (fun _ => 0))) = arrV cA N (fun _ => defaultValue .long) := fun _ => rfl

set_option maxHeartbeats 8000000 in
set_option maxRecDepth 100000 in
theorem k_X2_read (l : Launch) (dC : Nat → ClassId) (dI : Nat → Nat → Nat) (cA : Nat → ClassId) (sz : Nat) (ax : Nat → Nat) (xSz : Int32) (xPl : Int32) (xBe : Int32) (xRt : Int32) (xRf : Int32) (xRd : Int32) (xLk : Int32) (xTz : Int32) (gB : Nat → Int32) (gSt : Nat → Option Nat) (n : Int32) (adK : Nat → Nat) (adV : Nat → Nat) (i_xSz : 0 ≤ xSz.toInt ∧ xSz.toInt ≤ 200) (i_xPl : 0 ≤ xPl.toInt ∧ xPl.toInt ≤ 200) (i_xBe : 0 ≤ xBe.toInt ∧ xBe.toInt ≤ 200) (i_xRt : 0 ≤ xRt.toInt ∧ xRt.toInt ≤ 20) (i_xTz : 0 ≤ xTz.toInt ∧ xTz.toInt ≤ 200) (i_gB : inB 0 255 200 gB) (hn : 0 ≤ n.toInt ∧ n.toInt ≤ 20) : Met l yX2_read wsX2_read ({ frames := 91, cells := 200, slots := 800, locals := 2004 }) (va_Pc [.ref (ax 13), .int n] (fun U => U.heap.size = sz ∧ va_P (dC, dI) vwCl [((ax 13), .inr (2, [.ref (ax 11), .ref (ax 14), .int xSz, .int xPl, .int xBe, .int xRt, .int xRf, .int xRd, .int xLk])), ((ax 11), .inr (5, [.ref (ax 12), .int xTz])), ((ax 12), .inl (cA 0, 200, .inl gB)), ((ax 14), .inl (cA 4, 200, .inr (.inr (.inr (.inr gSt)))))] U.heap ∧ va_K (dC, dI) vwCl (tyL cA) U ∧ va_D (fun _ => True) [((ax 13), .inr (2, [.ref (ax 11), .ref (ax 14), .int xSz, .int xPl, .int xBe, .int xRt, .int xRf, .int xRd, .int xLk])), ((ax 11), .inr (5, [.ref (ax 12), .int xTz])), ((ax 12), .inl (cA 0, 200, .inl gB)), ((ax 14), .inl (cA 4, 200, .inr (.inr (.inr (.inr gSt)))))] ∧ st_ok adK adV (va_A [((ax 13), .inr (2, [.ref (ax 11), .ref (ax 14), .int xSz, .int xPl, .int xBe, .int xRt, .int xRf, .int xRd, .int xLk])), ((ax 11), .inr (5, [.ref (ax 12), .int xTz])), ((ax 12), .inl (cA 0, 200, .inl gB)), ((ax 14), .inl (cA 4, 200, .inr (.inr (.inr (.inr gSt)))))] sz) U)) (va_Qi (fun (r : Int32) (u : Int32 × Int32 × Int32 × Int32 × Int32 × Int32 × (Nat → Option Nat) × Int32 × (List Nat) × (Nat → va_E)) => (0 ≤ u.1.toInt ∧ u.1.toInt ≤ 200) ∧ (0 ≤ u.2.1.toInt ∧ u.2.1.toInt ≤ 200) ∧ (0 ≤ u.2.2.1.toInt ∧ u.2.2.1.toInt ≤ 200) ∧ (0 ≤ u.2.2.2.2.2.2.2.1.toInt ∧ u.2.2.2.2.2.2.2.1.toInt ≤ 20) ∧ (stq (Int32.toInt 0) u.1.toInt gSt u.2.2.2.2.2.2.1 u.2.2.2.2.2.2.2.2.1 u.2.2.2.2.2.2.2.2.2) ∧ (rs u.2.2.2.1 u.2.1 u.2.2.1 u.2.2.2.2.2.1 u.2.2.2.2.1 = pread (tpe gB xTz) xTz.toInt n.toInt) ∧ (r.toInt = u.2.2.2.1.toInt ∧ (-1) ≤ r.toInt)) (fun (u : Int32 × Int32 × Int32 × Int32 × Int32 × Int32 × (Nat → Option Nat) × Int32 × (List Nat) × (Nat → va_E)) (t : State) => va_P (dC, dI) vwCl (([((ax 13), .inr (2, [.ref (ax 11), .ref (ax 14), .int u.1, .int u.2.1, .int u.2.2.1, .int u.2.2.2.2.2.2.2.1, .int u.2.2.2.1, .int u.2.2.2.2.1, .int u.2.2.2.2.2.1])), ((ax 11), .inr (5, [.ref (ax 12), .int xTz])), ((ax 12), .inl (cA 0, 200, .inl gB)), ((ax 14), .inl (cA 4, 200, .inr (.inr (.inr (.inr u.2.2.2.2.2.2.1)))))] : va_W) ++ va_pl u.2.2.2.2.2.2.2.2.1 u.2.2.2.2.2.2.2.2.2) t.heap ∧ va_D (va_A [((ax 13), .inr (2, [.ref (ax 11), .ref (ax 14), .int xSz, .int xPl, .int xBe, .int xRt, .int xRf, .int xRd, .int xLk])), ((ax 11), .inr (5, [.ref (ax 12), .int xTz])), ((ax 12), .inl (cA 0, 200, .inl gB)), ((ax 14), .inl (cA 4, 200, .inr (.inr (.inr (.inr gSt)))))] sz) (([((ax 13), .inr (2, [.ref (ax 11), .ref (ax 14), .int u.1, .int u.2.1, .int u.2.2.1, .int u.2.2.2.2.2.2.2.1, .int u.2.2.2.1, .int u.2.2.2.2.1, .int u.2.2.2.2.2.1])), ((ax 11), .inr (5, [.ref (ax 12), .int xTz])), ((ax 12), .inl (cA 0, 200, .inl gB)), ((ax 14), .inl (cA 4, 200, .inr (.inr (.inr (.inr u.2.2.2.2.2.2.1)))))] : va_W) ++ va_pl u.2.2.2.2.2.2.2.2.1 u.2.2.2.2.2.2.2.2.2)) (va_A [((ax 13), .inr (2, [.ref (ax 11), .ref (ax 14), .int xSz, .int xPl, .int xBe, .int xRt, .int xRf, .int xRd, .int xLk])), ((ax 11), .inr (5, [.ref (ax 12), .int xTz])), ((ax 12), .inl (cA 0, 200, .inl gB)), ((ax 14), .inl (cA 4, 200, .inr (.inr (.inr (.inr gSt)))))] sz)) 200 800 (va_A [((ax 13), .inr (2, [.ref (ax 11), .ref (ax 14), .int xSz, .int xPl, .int xBe, .int xRt, .int xRf, .int xRd, .int xLk])), ((ax 11), .inr (5, [.ref (ax 12), .int xTz])), ((ax 12), .inl (cA 0, 200, .inl gB)), ((ax 14), .inl (cA 4, 200, .inr (.inr (.inr (.inr gSt)))))] sz) := by
  sorry
set_option maxHeartbeats 8000000 in
set_option maxRecDepth 100000 in
theorem k_X2_stepsRead (l : Launch) (dC : Nat → ClassId) (dI : Nat → Nat → Nat) (cA : Nat → ClassId) (sz : Nat) (ax : Nat → Nat) (xSz : Int32) (xPl : Int32) (xBe : Int32) (xRt : Int32) (xRf : Int32) (xRd : Int32) (xLk : Int32) (gSt : Nat → Option Nat) (L : List Nat) (pf : Nat → va_E) (i_xSz : 0 ≤ xSz.toInt ∧ xSz.toInt ≤ 200) (i_xPl : 0 ≤ xPl.toInt ∧ xPl.toInt ≤ 200) (i_xBe : 0 ≤ xBe.toInt ∧ xBe.toInt ≤ 200) (i_xRt : 0 ≤ xRt.toInt ∧ xRt.toInt ≤ 20) (hsq : ∀ j : Nat, (j : Int) < xSz.toInt → ∃ a, gSt j = some a ∧ stepOk L pf a) : Met l yX2_stepsRead wsX2_stepsRead ({ frames := 0, cells := 1, slots := 200, locals := 0 }) (va_Pc [.ref (ax 13)] (fun U => U.heap.size = sz ∧ va_P (dC, dI) vwCl (([((ax 13), .inr (2, [.ref (ax 11), .ref (ax 14), .int xSz, .int xPl, .int xBe, .int xRt, .int xRf, .int xRd, .int xLk])), ((ax 14), .inl (cA 4, 200, .inr (.inr (.inr (.inr gSt)))))] : va_W) ++ va_pl L pf) U.heap ∧ va_K (dC, dI) vwCl (tyL cA) U ∧ va_D (fun _ => True) (([((ax 13), .inr (2, [.ref (ax 11), .ref (ax 14), .int xSz, .int xPl, .int xBe, .int xRt, .int xRf, .int xRd, .int xLk])), ((ax 14), .inl (cA 4, 200, .inr (.inr (.inr (.inr gSt)))))] : va_W) ++ va_pl L pf) ∧ nw_ok U)) (va_Qq (fun (r : Option Nat) (u : Nat × (Nat → Option Nat)) => (r = some u.1) ∧ (∀ j : Nat, (j : Int) < xSz.toInt → u.2 j = gSt j)) (fun (u : Nat × (Nat → Option Nat)) (t : State) => va_P (dC, dI) vwCl (([((ax 13), .inr (2, [.ref (ax 11), .ref (ax 14), .int xSz, .int xPl, .int xBe, .int xRt, .int xRf, .int xRd, .int xLk])), ((ax 14), .inl (cA 4, 200, .inr (.inr (.inr (.inr gSt))))), (u.1, .inl (cA 4, (xSz.toInt.toNat), .inr (.inr (.inr (.inr u.2)))))] : va_W) ++ va_pl L pf) t.heap ∧ va_D (va_A (([((ax 13), .inr (2, [.ref (ax 11), .ref (ax 14), .int xSz, .int xPl, .int xBe, .int xRt, .int xRf, .int xRd, .int xLk])), ((ax 14), .inl (cA 4, 200, .inr (.inr (.inr (.inr gSt)))))] : va_W) ++ va_pl L pf) sz) (([((ax 13), .inr (2, [.ref (ax 11), .ref (ax 14), .int xSz, .int xPl, .int xBe, .int xRt, .int xRf, .int xRd, .int xLk])), ((ax 14), .inl (cA 4, 200, .inr (.inr (.inr (.inr gSt))))), (u.1, .inl (cA 4, (xSz.toInt.toNat), .inr (.inr (.inr (.inr u.2)))))] : va_W) ++ va_pl L pf)) (va_A (([((ax 13), .inr (2, [.ref (ax 11), .ref (ax 14), .int xSz, .int xPl, .int xBe, .int xRt, .int xRf, .int xRd, .int xLk])), ((ax 14), .inl (cA 4, 200, .inr (.inr (.inr (.inr gSt)))))] : va_W) ++ va_pl L pf) sz)) 1 200 (va_A (([((ax 13), .inr (2, [.ref (ax 11), .ref (ax 14), .int xSz, .int xPl, .int xBe, .int xRt, .int xRf, .int xRd, .int xLk])), ((ax 14), .inl (cA 4, 200, .inr (.inr (.inr (.inr gSt)))))] : va_W) ++ va_pl L pf) sz) := by
  sorry
set_option maxHeartbeats 8000000 in
set_option maxRecDepth 100000 in
theorem k_X6_init (l : Launch) (dC : Nat → ClassId) (dI : Nat → Nat → Nat) (cA : Nat → ClassId) (sz : Nat) (ta6 : Nat) (sR : Nat) (nd1 : Int32)   : Met l yX6_init wsX6_init ({ frames := 1, cells := 2, slots := 40, locals := 24 }) (va_Pc [.ref ta6, .ref sR, .int nd1] (fun U => U.heap.size = sz ∧ va_P (dC, dI) vwCl [(ta6, .inr (6, [.null, .int 0, .null, .null, .long 0, .long 0, .int 0, .int 0]))] U.heap ∧ va_K (dC, dI) vwCl (tyL cA) U ∧ va_D (fun _ => True) [(ta6, .inr (6, [.null, .int 0, .null, .null, .long 0, .long 0, .int 0, .int 0]))] ∧ nw_ok U)) (va_Qv (fun (u : Nat × Nat × (Nat → Int64) × (Nat → Int32)) => True) (fun (u : Nat × Nat × (Nat → Int64) × (Nat → Int32)) (t : State) => va_P (dC, dI) vwCl [(ta6, .inr (6, [.ref sR, .int nd1, .ref u.1, .ref u.2.1, .long (-1000000000000), .long 1000000000000, .int 100000, .int 0])), (u.1, .inl (cA 1, 20, .inr (.inl u.2.2.1))), (u.2.1, .inl (cA 0, 20, .inl u.2.2.2))] t.heap ∧ va_D (va_A [(ta6, .inr (6, [.null, .int 0, .null, .null, .long 0, .long 0, .int 0, .int 0]))] sz) [(ta6, .inr (6, [.ref sR, .int nd1, .ref u.1, .ref u.2.1, .long (-1000000000000), .long 1000000000000, .int 100000, .int 0])), (u.1, .inl (cA 1, 20, .inr (.inl u.2.2.1))), (u.2.1, .inl (cA 0, 20, .inl u.2.2.2))]) (va_A [(ta6, .inr (6, [.null, .int 0, .null, .null, .long 0, .long 0, .int 0, .int 0]))] sz)) 2 40 (va_A [(ta6, .inr (6, [.null, .int 0, .null, .null, .long 0, .long 0, .int 0, .int 0]))] sz) := by
  sorry
