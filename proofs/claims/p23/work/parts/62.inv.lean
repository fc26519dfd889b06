/-! behind a call: the callee's cells put back where they stood -/
def mskc (is : List Nat) : Nat → va_W → List (Option (Nat × va_E))
  | _, [] => []
  | k, x :: xs => (bif is.contains k then none else some x) :: mskc is (k + 1) xs
theorem mskc_get {is : List Nat} : ∀ {X : va_W} {k i : Nat}, (mskc is k X)[i]? = X[i]?.map (fun x => bif is.contains (k + i) then none else some x) := by
  intro X
  induction X with
  | nil => intro k i; rfl
  | cons x xs ih =>
    intro k i
    cases i with
    | zero => rfl
    | succ i =>
      show (mskc is (k + 1) xs)[i]? = xs[i]?.map (fun x => bif is.contains (k + (i + 1)) then none else some x)
      rw [ih, show k + 1 + i = k + (i + 1) by omega]
theorem mskc_len {is : List Nat} : ∀ {X : va_W} {k : Nat}, (mskc is k X).length = X.length := by
  intro X
  induction X with
  | nil => intro k; rfl
  | cons x xs ih => intro k; show (mskc is (k + 1) xs).length + 1 = xs.length + 1; rw [ih]
theorem mskc_ne {is : List Nat} {X X' : va_W} (h : mskc is 0 X' = mskc is 0 X) {i : Nat} (hi : i ∉ is) : X'[i]? = X[i]? := by
  have h1 := congrArg (fun l => l[i]?) h
  rw [mskc_get, mskc_get] at h1
  have hc : is.contains (0 + i) = false := by
    rw [Nat.zero_add]
    cases q : is.contains i with
    | false => rfl
    | true => exact absurd (List.contains_iff_mem.mp q) hi
  rw [hc] at h1
  cases a : X'[i]? with
  | none =>
    cases b : X[i]? with
    | none => rfl
    | some y => rw [a, b] at h1; cases h1
  | some x =>
    cases b : X[i]? with
    | none => rw [a, b] at h1; cases h1
    | some y => rw [a, b] at h1; cases h1; rfl
theorem va_putP {A0 : Nat → Prop} {D : va_G} {cl : List vw_C} {X X' cx rx pl pl1 : va_W} {H H1 : Heap} (hP : va_P D cl (X ++ pl) H) (hD : va_D A0 (X ++ pl))
    (hk : ∀ q : Nat, q < H.size → ¬ va_A (cx ++ pl) H.size q → H1[q]? = H[q]?) (hF : ∀ q, va_A (cx ++ pl) H.size q → A0 q) (hP1 : va_P D cl (rx ++ pl1) H1) (hD1 : va_D (va_A (cx ++ pl) H.size) (rx ++ pl1)) (isC : List Nat) (hC : isC.map (fun i => X[i]?) = cx.map some) (hR : isC.map (fun i => X'[i]?) = rx.map some) (hM : mskc isC 0 X' = mskc isC 0 X) : va_P D cl (X' ++ pl1) H1 ∧ va_D A0 (X' ++ pl1) := by
  have hlen : X'.length = X.length := by have := congrArg List.length hM; rwa [mskc_len, mskc_len] at this
  have hlr : isC.length = rx.length := by have := congrArg List.length hR; simpa using this
  -- where a cell of the new world comes from
  have src : ∀ (k : Nat) (q : Nat × va_E), (X' ++ pl1)[k]? = some q → (∃ p : Nat, isC[p]? = some k ∧ p < rx.length ∧ (rx ++ pl1)[p]? = some q) ∨ (k ∉ isC ∧ k < X.length ∧ (X ++ pl)[k]? = some q) ∨ (X.length ≤ k ∧ (rx ++ pl1)[rx.length + (k - X.length)]? = some q) := by
    intro k q hq
    by_cases h1 : k < X'.length
    · rw [List.getElem?_append_left h1] at hq
      by_cases h2 : k ∈ isC
      · obtain ⟨p, hp⟩ := List.getElem?_of_mem h2
        have hpl : p < rx.length := by rw [← hlr]; exact (List.getElem?_eq_some_iff.mp hp).1
        have h3 : (isC.map (fun i => X'[i]?))[p]? = some (X'[k]?) := by rw [List.getElem?_map, hp]; rfl
        rw [hR, List.getElem?_map, hq] at h3
        refine Or.inl ⟨p, hp, hpl, ?_⟩
        rw [List.getElem?_append_left hpl]
        cases hx : rx[p]? with
        | none => rw [hx] at h3; cases h3
        | some z => rw [hx] at h3; cases h3; rfl
      · refine Or.inr (Or.inl ⟨h2, by omega, ?_⟩)
        rw [List.getElem?_append_left (by omega), ← mskc_ne hM h2]
        exact hq
    · refine Or.inr (Or.inr ⟨by omega, ?_⟩)
      rw [List.getElem?_append_right (by omega)] at hq
      rw [List.getElem?_append_right (by omega), show rx.length + (k - X.length) - rx.length = k - X'.length by omega]
      exact hq
  have apart : ∀ (k : Nat) (q : Nat × va_E), k ∉ isC → k < X.length → (X ++ pl)[k]? = some q → q.1 < H.size ∧ ¬ va_A (cx ++ pl) H.size q.1 := by
    intro k q hk1 hk2 hq
    have hl := (hP k q hq).lt
    refine ⟨hl, fun h => ?_⟩
    rcases h with ⟨k2, e, h⟩ | h
    · have h3 := va_part isC hC k2 _ h
      have hij := hD.1 _ _ q (q.1, e) hq h3 rfl
      by_cases h4 : k2 < cx.length
      · rw [List.getElem?_append_left h4] at h
        obtain ⟨j, h5, h6⟩ := va_in_of isC hC h
        rw [if_pos h4, h5] at hij
        have hij' : k = j := hij
        subst hij'
        exact hk1 (List.mem_of_getElem? h5)
      · rw [if_neg h4] at hij
        omega
    · omega
  refine ⟨fun k q hq => ?_, fun i j x y hx hy hxy => ?_, fun k q hq => ?_⟩
  · rcases src k q hq with ⟨p, -, -, h⟩ | ⟨h1, h2, h3⟩ | ⟨-, h⟩
    · exact hP1 _ q h
    · obtain ⟨g1, g2⟩ := apart k q h1 h2 h3
      exact (hP k q h3).kept (hk q.1 g1 g2)
    · exact hP1 _ q h
  · rcases src i x hx with ⟨p, a1, a2, a3⟩ | ⟨a1, a2, a3⟩ | ⟨a1, a3⟩ <;> rcases src j y hy with ⟨r, b1, b2, b3⟩ | ⟨b1, b2, b3⟩ | ⟨b1, b3⟩
    · have := hD1.1 _ _ x y a3 b3 hxy
      subst this
      rw [a1] at b1
      exact Option.some.inj b1
    · exact absurd (hD1.2 _ x a3) (by rw [hxy]; exact (apart j y b1 b2 b3).2)
    · have := hD1.1 _ _ x y a3 b3 hxy
      omega
    · exact absurd (hD1.2 _ y b3) (by rw [← hxy]; exact (apart i x a1 a2 a3).2)
    · exact hD.1 _ _ x y a3 b3 hxy
    · exact absurd (hD1.2 _ y b3) (by rw [← hxy]; exact (apart i x a1 a2 a3).2)
    · have := hD1.1 _ _ x y a3 b3 hxy
      omega
    · exact absurd (hD1.2 _ x a3) (by rw [hxy]; exact (apart j y b1 b2 b3).2)
    · have := hD1.1 _ _ x y a3 b3 hxy
      omega
  · rcases src k q hq with ⟨p, -, -, h⟩ | ⟨-, -, h3⟩ | ⟨-, h⟩
    · exact hF _ (hD1.2 _ q h)
    · exact hD.2 _ q h3
    · exact hF _ (hD1.2 _ q h)
theorem va_putQ {A0 : Nat → Prop} {D : va_G} {cl : List vw_C} {X X' cx w1 pl : va_W} {H H1 : Heap} (hP : va_P D cl (X ++ pl) H) (hD : va_D A0 (X ++ pl))
    (hk : ∀ q : Nat, q < H.size → ¬ va_A cx H.size q → H1[q]? = H[q]?) (hF : ∀ q, va_A cx H.size q → A0 q) (hP1 : va_P D cl w1 H1) (hD1 : va_D (va_A cx H.size) w1) (isC : List Nat) (hC : isC.map (fun i => X[i]?) = cx.map some) (hR : isC.map (fun i => X'[i]?) = w1.map some) (hM : mskc isC 0 X' = mskc isC 0 X) : va_P D cl (X' ++ pl) H1 ∧ va_D A0 (X' ++ pl) := by
  have hlen : X'.length = X.length := by have := congrArg List.length hM; rwa [mskc_len, mskc_len] at this
  have src : ∀ (k : Nat) (q : Nat × va_E), (X' ++ pl)[k]? = some q → (∃ p : Nat, isC[p]? = some k ∧ w1[p]? = some q) ∨ (k ∉ isC ∧ (X ++ pl)[k]? = some q) := by
    intro k q hq
    by_cases h2 : k ∈ isC
    · obtain ⟨p, hp⟩ := List.getElem?_of_mem h2
      have h0 : (isC.map (fun i => X[i]?))[p]? = some (X[k]?) := by rw [List.getElem?_map, hp]; rfl
      have hkX : k < X.length := by
        rw [hC, List.getElem?_map] at h0
        cases hx : cx[p]? with
        | none => rw [hx] at h0; cases h0
        | some z =>
          rw [hx] at h0
          have h9 : some z = X[k]? := Option.some.inj h0
          exact (List.getElem?_eq_some_iff.mp h9.symm).1
      rw [List.getElem?_append_left (by omega)] at hq
      have h3 : (isC.map (fun i => X'[i]?))[p]? = some (X'[k]?) := by rw [List.getElem?_map, hp]; rfl
      rw [hR, List.getElem?_map, hq] at h3
      refine Or.inl ⟨p, hp, ?_⟩
      cases hx : w1[p]? with
      | none => rw [hx] at h3; cases h3
      | some z => rw [hx] at h3; cases h3; rfl
    · refine Or.inr ⟨h2, ?_⟩
      by_cases h1 : k < X'.length
      · rw [List.getElem?_append_left h1] at hq
        rw [List.getElem?_append_left (by omega), ← mskc_ne hM h2]
        exact hq
      · rw [List.getElem?_append_right (by omega)] at hq
        rw [List.getElem?_append_right (by omega), show k - X.length = k - X'.length by omega]
        exact hq
  have apart : ∀ (k : Nat) (q : Nat × va_E), k ∉ isC → (X ++ pl)[k]? = some q → q.1 < H.size ∧ ¬ va_A cx H.size q.1 := by
    intro k q hk1 hq
    have hl := (hP k q hq).lt
    refine ⟨hl, fun h => ?_⟩
    rcases h with ⟨k2, e, h⟩ | h
    · obtain ⟨j, h5, h6⟩ := va_in_of isC hC h
      have hj : j < X.length := (List.getElem?_eq_some_iff.mp h6).1
      have h6' : (X ++ pl)[j]? = some (q.1, e) := by rw [List.getElem?_append_left hj]; exact h6
      have hij := hD.1 _ _ q (q.1, e) hq h6' rfl
      subst hij
      exact hk1 (List.mem_of_getElem? h5)
    · omega
  refine ⟨fun k q hq => ?_, fun i j x y hx hy hxy => ?_, fun k q hq => ?_⟩
  · rcases src k q hq with ⟨p, -, h⟩ | ⟨h1, h3⟩
    · exact hP1 _ q h
    · obtain ⟨g1, g2⟩ := apart k q h1 h3
      exact (hP k q h3).kept (hk q.1 g1 g2)
  · rcases src i x hx with ⟨p, a1, a3⟩ | ⟨a1, a3⟩ <;> rcases src j y hy with ⟨r, b1, b3⟩ | ⟨b1, b3⟩
    · have := hD1.1 _ _ x y a3 b3 hxy
      subst this
      rw [a1] at b1
      exact Option.some.inj b1
    · exact absurd (hD1.2 _ x a3) (by rw [hxy]; exact (apart j y b1 b3).2)
    · exact absurd (hD1.2 _ y b3) (by rw [← hxy]; exact (apart i x a1 a3).2)
    · exact hD.1 _ _ x y a3 b3 hxy
  · rcases src k q hq with ⟨p, -, h⟩ | ⟨-, h3⟩
    · exact hF _ (hD1.2 _ q h)
    · exact hD.2 _ q h3
theorem lx_add {i x k : Int32} {j Ln : Nat} {n : Int} (hij : i.toInt = 11 * (j : Int)) (hiL : i.toInt + 11 ≤ (Ln : Int)) (hLn : Ln ≤ 5632) (e : x = i + k) (hk : k.toInt = n) (h0 : 0 ≤ n) (h1 : n ≤ 10) : x.toInt = i.toInt + n := by
  rw [e]; exact jI_add rfl hk (by omega) (by omega)
theorem lx_in {i x : Int32} {j Ln : Nat} {n : Int} (hij : i.toInt = 11 * (j : Int)) (hiL : i.toInt + 11 ≤ (Ln : Int)) (d : x.toInt = i.toInt + n) (h0 : 0 ≤ n) (h1 : n ≤ 10) : vp_in x Ln := vp_in_iff.mpr ⟨by omega, by omega⟩
def lrng (lo hi : Int) (x : Int32) : Prop := lo ≤ x.toInt ∧ x.toInt ≤ hi
def LI (dC : Nat → ClassId) (dI : Nat → Nat → Nat) (cA : Nat → ClassId) (ax am : Nat → Nat) (A : Nat → Prop) (H : Heap) (xEr : Int32) (xRe : Int32) (xRz : Int32) (xRn : Int32) (gP : Nat → Int32) (gS : Nat → Int32) (gM : Nat → Int32) (gK : Nat → Int32) (gV : Nat → Int32) (gE : Nat → Int32) (gB : Nat → Int32) (xSz : Int32) (xPl : Int32) (xBe : Int32) (xRt : Int32) (xRf : Int32) (xRd : Int32) (xLk : Int32) (gSt : Nat → Option Nat) (gTr : Nat → Option Nat) (xSr : Int32) (xWm : Int32) (xTp : Int32) (gO : Nat → Int32) (gW : Nat → Int32) (gKk : Nat → Int64) (gVs : Nat → Int64) (xPz : Int32) (gPO : Nat → Int32) (gPM : Nat → Int32) (gPF : Nat → Int32) (gPV : Nat → Int64) (gMo : Nat → Int32) (gH1 : Nat → Int32) (gH2 : Nat → Int32) (v_status : Int32) (v_now : Int32) (v_told : Int32) (v_merges : Int32) (v_taped : Int32) (v_size : Int32) (v_from : Int32) (v_to : Int32) (v_fault : Int32) (v_readFault : Int32) (v_traits : Int32) (v_length : Int32) (v_open : Int32) (v_leaks : Int32) (v_places : Int32) (v_models : Int32) (f_rowPerson : Nat → Int32) (f_rowStream : Nat → Int32) (f_rowMoment : Nat → Int32) (f_rowKnown : Nat → Int32) (f_rowValue : Nat → Int32) (f_isGone : Nat → Int32) (f_mergeTo : Nat → Int32) (f_mergeKnown : Nat → Int32) (f_isErased : Nat → Int32) (f_tape : Nat → Int32) (f_five : Nat → Int32) (f_size0 : Nat → Int32) (f_step : Nat → Int32) (f_stepA : Nat → Int32) (f_stepB : Nat → Int32) (f_stepC : Nat → Int32) (f_values : Nat → Int64) (f_heap : Nat → Int64) (f_isOne : Nat → Int32) (f_lawFrom : Nat → Int64) (f_lawTo : Nat → Int64) (f_hasLaw : Nat → Int32) (f_limits : Nat → Int32) (f_held : Nat → Int32) (f_hasKept : Nat → Int32) (f_kept : Nat → Int64) (f_keptAt : Nat → Int32) (f_placeTrait : Nat → Int32) (f_placePerson : Nat → Int32) (f_placeMoment : Nat → Int32) (f_placeValue : Nat → Int64) (f_isFilled : Nat → Int32) (f_uses : Nat → Int32) (f_heapsOne : Nat → Int32) (f_heapsOther : Nat → Int32) (L : List Nat) (pf : Nat → va_E) (nd : Nat → Int32) (sl : Nat → Int32) : Prop := (va_P (dC, dI) vwCl (([((ax 0), .inr (8, [.ref (ax 1), .ref (ax 7), .ref (ax 10), .ref (ax 11), .ref (ax 13), .ref (ax 15), .ref (ax 16), .ref (ax 21), .ref (ax 26), .ref (ax 27), .ref (ax 28), .int v_now, .int xEr, .int v_traits, .int v_models, .int v_fault, .int xRe])), ((ax 1), .inr (3, [.ref (ax 2), .ref (ax 3), .ref (ax 4), .ref (ax 5), .ref (ax 6), .int xRz, .int xRn])), ((ax 2), .inl (cA 0, 400, .inl gP)), ((ax 3), .inl (cA 0, 400, .inl gS)), ((ax 4), .inl (cA 0, 400, .inl gM)), ((ax 5), .inl (cA 0, 400, .inl gK)), ((ax 6), .inl (cA 0, 400, .inl gV)), ((ax 7), .inr (0, [.ref (ax 8), .ref (ax 9), .int v_merges])), ((ax 8), .inl (cA 0, 20, .inl f_mergeTo)), ((ax 9), .inl (cA 0, 20, .inl f_mergeKnown)), ((ax 10), .inl (cA 2, 20, .inl gE)), ((ax 11), .inr (5, [.ref (ax 12), .int v_taped])), ((ax 12), .inl (cA 0, 200, .inl gB)), ((ax 13), .inr (2, [.ref (ax 11), .ref (ax 14), .int xSz, .int xPl, .int xBe, .int xRt, .int xRf, .int xRd, .int xLk])), ((ax 14), .inl (cA 4, 200, .inr (.inr (.inr (.inr gSt))))), ((ax 15), .inl (cA 5, 20, .inr (.inr (.inr (.inr gTr))))), ((ax 16), .inr (7, [.ref (ax 1), .ref (ax 7), .ref (ax 15), .ref (ax 17), .ref (ax 18), .ref (ax 19), .ref (ax 20), .int xSr, .int xWm, .int xTp])), ((ax 17), .inl (cA 2, 20, .inl gO)), ((ax 18), .inl (cA 0, 400, .inl gW)), ((ax 19), .inl (cA 1, 200, .inr (.inl gKk))), ((ax 20), .inl (cA 1, 20, .inr (.inl gVs))), ((ax 21), .inr (1, [.ref (ax 22), .ref (ax 23), .ref (ax 24), .ref (ax 25), .int xPz])), ((ax 22), .inl (cA 0, 2000, .inl gPO)), ((ax 23), .inl (cA 0, 2000, .inl gPM)), ((ax 24), .inl (cA 2, 2000, .inl gPF)), ((ax 25), .inl (cA 1, 2000, .inr (.inl gPV))), ((ax 26), .inl (cA 0, 10, .inl gMo)), ((ax 27), .inl (cA 0, 4, .inl gH1)), ((ax 28), .inl (cA 0, 4, .inl gH2)), ((am 0), .inr (9, F9 am v_status v_now v_told v_merges v_taped v_size v_from v_to v_fault v_readFault v_traits v_length v_open v_leaks v_places v_models)), ((am 1), .inl (cA 0, 400, .inl f_rowPerson)), ((am 2), .inl (cA 0, 400, .inl f_rowStream)), ((am 3), .inl (cA 0, 400, .inl f_rowMoment)), ((am 4), .inl (cA 0, 400, .inl f_rowKnown)), ((am 5), .inl (cA 0, 400, .inl f_rowValue)), ((am 6), .inl (cA 2, 400, .inl f_isGone)), ((am 7), .inl (cA 0, 20, .inl f_mergeTo)), ((am 8), .inl (cA 0, 20, .inl f_mergeKnown)), ((am 9), .inl (cA 2, 20, .inl f_isErased)), ((am 10), .inl (cA 3, 200, .inl f_tape)), ((am 11), .inl (cA 0, 5, .inl f_five)), ((am 12), .inl (cA 0, 20, .inl f_size0)), ((am 13), .inl (cA 0, 5000, .inl f_step)), ((am 14), .inl (cA 0, 5000, .inl f_stepA)), ((am 15), .inl (cA 0, 5000, .inl f_stepB)), ((am 16), .inl (cA 0, 5000, .inl f_stepC)), ((am 17), .inl (cA 1, 20, .inr (.inl f_values))), ((am 18), .inl (cA 1, 250, .inr (.inl f_heap))), ((am 19), .inl (cA 2, 20, .inl f_isOne)), ((am 20), .inl (cA 1, 20, .inr (.inl f_lawFrom))), ((am 21), .inl (cA 1, 20, .inr (.inl f_lawTo))), ((am 22), .inl (cA 2, 20, .inl f_hasLaw)), ((am 23), .inl (cA 0, 20, .inl f_limits)), ((am 24), .inl (cA 0, 20, .inl f_held)), ((am 25), .inl (cA 2, 400, .inl f_hasKept)), ((am 26), .inl (cA 1, 400, .inr (.inl f_kept))), ((am 27), .inl (cA 0, 400, .inl f_keptAt)), ((am 28), .inl (cA 0, 2000, .inl f_placeTrait)), ((am 29), .inl (cA 0, 2000, .inl f_placePerson)), ((am 30), .inl (cA 0, 2000, .inl f_placeMoment)), ((am 31), .inl (cA 1, 2000, .inr (.inl f_placeValue))), ((am 32), .inl (cA 2, 2000, .inl f_isFilled)), ((am 33), .inl (cA 0, 10, .inl f_uses)), ((am 34), .inl (cA 0, 4, .inl f_heapsOne)), ((am 35), .inl (cA 0, 4, .inl f_heapsOther))] : va_W) ++ va_pl L pf) H) ∧ (va_D A (([((ax 0), .inr (8, [.ref (ax 1), .ref (ax 7), .ref (ax 10), .ref (ax 11), .ref (ax 13), .ref (ax 15), .ref (ax 16), .ref (ax 21), .ref (ax 26), .ref (ax 27), .ref (ax 28), .int v_now, .int xEr, .int v_traits, .int v_models, .int v_fault, .int xRe])), ((ax 1), .inr (3, [.ref (ax 2), .ref (ax 3), .ref (ax 4), .ref (ax 5), .ref (ax 6), .int xRz, .int xRn])), ((ax 2), .inl (cA 0, 400, .inl gP)), ((ax 3), .inl (cA 0, 400, .inl gS)), ((ax 4), .inl (cA 0, 400, .inl gM)), ((ax 5), .inl (cA 0, 400, .inl gK)), ((ax 6), .inl (cA 0, 400, .inl gV)), ((ax 7), .inr (0, [.ref (ax 8), .ref (ax 9), .int v_merges])), ((ax 8), .inl (cA 0, 20, .inl f_mergeTo)), ((ax 9), .inl (cA 0, 20, .inl f_mergeKnown)), ((ax 10), .inl (cA 2, 20, .inl gE)), ((ax 11), .inr (5, [.ref (ax 12), .int v_taped])), ((ax 12), .inl (cA 0, 200, .inl gB)), ((ax 13), .inr (2, [.ref (ax 11), .ref (ax 14), .int xSz, .int xPl, .int xBe, .int xRt, .int xRf, .int xRd, .int xLk])), ((ax 14), .inl (cA 4, 200, .inr (.inr (.inr (.inr gSt))))), ((ax 15), .inl (cA 5, 20, .inr (.inr (.inr (.inr gTr))))), ((ax 16), .inr (7, [.ref (ax 1), .ref (ax 7), .ref (ax 15), .ref (ax 17), .ref (ax 18), .ref (ax 19), .ref (ax 20), .int xSr, .int xWm, .int xTp])), ((ax 17), .inl (cA 2, 20, .inl gO)), ((ax 18), .inl (cA 0, 400, .inl gW)), ((ax 19), .inl (cA 1, 200, .inr (.inl gKk))), ((ax 20), .inl (cA 1, 20, .inr (.inl gVs))), ((ax 21), .inr (1, [.ref (ax 22), .ref (ax 23), .ref (ax 24), .ref (ax 25), .int xPz])), ((ax 22), .inl (cA 0, 2000, .inl gPO)), ((ax 23), .inl (cA 0, 2000, .inl gPM)), ((ax 24), .inl (cA 2, 2000, .inl gPF)), ((ax 25), .inl (cA 1, 2000, .inr (.inl gPV))), ((ax 26), .inl (cA 0, 10, .inl gMo)), ((ax 27), .inl (cA 0, 4, .inl gH1)), ((ax 28), .inl (cA 0, 4, .inl gH2)), ((am 0), .inr (9, F9 am v_status v_now v_told v_merges v_taped v_size v_from v_to v_fault v_readFault v_traits v_length v_open v_leaks v_places v_models)), ((am 1), .inl (cA 0, 400, .inl f_rowPerson)), ((am 2), .inl (cA 0, 400, .inl f_rowStream)), ((am 3), .inl (cA 0, 400, .inl f_rowMoment)), ((am 4), .inl (cA 0, 400, .inl f_rowKnown)), ((am 5), .inl (cA 0, 400, .inl f_rowValue)), ((am 6), .inl (cA 2, 400, .inl f_isGone)), ((am 7), .inl (cA 0, 20, .inl f_mergeTo)), ((am 8), .inl (cA 0, 20, .inl f_mergeKnown)), ((am 9), .inl (cA 2, 20, .inl f_isErased)), ((am 10), .inl (cA 3, 200, .inl f_tape)), ((am 11), .inl (cA 0, 5, .inl f_five)), ((am 12), .inl (cA 0, 20, .inl f_size0)), ((am 13), .inl (cA 0, 5000, .inl f_step)), ((am 14), .inl (cA 0, 5000, .inl f_stepA)), ((am 15), .inl (cA 0, 5000, .inl f_stepB)), ((am 16), .inl (cA 0, 5000, .inl f_stepC)), ((am 17), .inl (cA 1, 20, .inr (.inl f_values))), ((am 18), .inl (cA 1, 250, .inr (.inl f_heap))), ((am 19), .inl (cA 2, 20, .inl f_isOne)), ((am 20), .inl (cA 1, 20, .inr (.inl f_lawFrom))), ((am 21), .inl (cA 1, 20, .inr (.inl f_lawTo))), ((am 22), .inl (cA 2, 20, .inl f_hasLaw)), ((am 23), .inl (cA 0, 20, .inl f_limits)), ((am 24), .inl (cA 0, 20, .inl f_held)), ((am 25), .inl (cA 2, 400, .inl f_hasKept)), ((am 26), .inl (cA 1, 400, .inr (.inl f_kept))), ((am 27), .inl (cA 0, 400, .inl f_keptAt)), ((am 28), .inl (cA 0, 2000, .inl f_placeTrait)), ((am 29), .inl (cA 0, 2000, .inl f_placePerson)), ((am 30), .inl (cA 0, 2000, .inl f_placeMoment)), ((am 31), .inl (cA 1, 2000, .inr (.inl f_placeValue))), ((am 32), .inl (cA 2, 2000, .inl f_isFilled)), ((am 33), .inl (cA 0, 10, .inl f_uses)), ((am 34), .inl (cA 0, 4, .inl f_heapsOne)), ((am 35), .inl (cA 0, 4, .inl f_heapsOther))] : va_W) ++ va_pl L pf)) ∧ (lrng 0 400 xRz) ∧ (inB 0 19 400 gP) ∧ (inB 0 255 200 gB) ∧ (lrng 0 200 xSz) ∧ (lrng 0 200 xPl) ∧ (lrng 0 200 xBe) ∧ (lrng 0 20 xRt) ∧ (lrng 0 400 xSr) ∧ (lrng 0 200 xTp) ∧ (inB 0 399 400 gW) ∧ (lrng 0 2000 xPz) ∧ (lrng 0 100000 v_now) ∧ (lrng 0 400 v_told) ∧ (lrng 0 200 v_taped) ∧ (lrng 0 200 v_size) ∧ (lrng 0 200 v_from) ∧ (lrng 0 200 v_to) ∧ (lrng 0 20 v_traits) ∧ (lrng 0 200 v_length) ∧ (lrng 0 8 v_open) ∧ (lrng 0 2000 v_places) ∧ (lrng 0 10 v_models) ∧ (inB 0 19 400 f_rowPerson) ∧ (inB (-1) 19 20 f_mergeTo) ∧ (inB 0 100000 20 f_mergeKnown) ∧ (inB 0 200 20 f_size0) ∧ (TP cA v_traits gTr L pf nd sl) ∧ (Acyc f_mergeTo) ∧ (progOK f_step f_stepA f_size0 v_traits) ∧ (tpe gB v_taped = tpe f_tape v_taped) ∧ ((∀ k : Nat, (k : Int) < v_traits.toInt → sl k = f_limits k)) ∧ (ndI (rdR f_step f_stepA f_size0) nd v_traits.toInt.toNat) ∧ ((∀ k : Nat, (k : Int) < v_models.toInt → gMo k = nds nd (f_uses k) v_traits.toInt.toNat ∧ ∀ j, tb (f_uses k) j = true → j < v_traits.toInt.toNat))
theorem mg_same {fT fK : Nat → Int32} {n a b kn r1 r2 n1 n2 : Int32} {fT1 fT2 fK1 fK2 : Nat → Int32} (h1 : mgRes fT fK n a b kn r1 n1 fT1 fK1) (h2 : mgRes fT fK n a b kn r2 n2 fT2 fK2) : r1 = r2 ∧ n1 = n2 ∧ fT1 = fT2 ∧ fK1 = fK2 := by
  rcases h1 with ⟨a1, a2, a3, a4, a5⟩ | ⟨a1, a2, a3, a4, a5, a6⟩ | ⟨a1, a2, a3, a4, a5, a6, a7⟩ | ⟨a1, a2, a3, a4, a5, a6, a7, a8⟩ <;> rcases h2 with ⟨b1, b2, b3, b4, b5⟩ | ⟨b1, b2, b3, b4, b5, b6⟩ | ⟨b1, b2, b3, b4, b5, b6, b7⟩ | ⟨b1, b2, b3, b4, b5, b6, b7, b8⟩
  all_goals first
    | exact absurd b1 a1
    | exact absurd a1 b1
    | exact absurd b2 a2
    | exact absurd a2 b2
    | exact ⟨Int32.toInt_inj.mp (a2.trans b2.symm), a3.trans b3.symm, a4.trans b4.symm, a5.trans b5.symm⟩
    | exact ⟨Int32.toInt_inj.mp (a3.trans b3.symm), a4.trans b4.symm, a5.trans b5.symm, a6.trans b6.symm⟩
    | exact ⟨Int32.toInt_inj.mp (a4.trans b4.symm), a5.trans b5.symm, a6.trans b6.symm, a7.trans b7.symm⟩
    | exact ⟨a5.trans b5.symm, a6.trans b6.symm, a7.trans b7.symm, a8.trans b8.symm⟩
    | (exfalso; rcases a3 with q | q; exact absurd b3 q; exact absurd q b4)
    | (exfalso; rcases b3 with q | q; exact absurd a3 q; exact absurd q a4)
theorem ld_same {fT fK : Nat → Int32} {a kn r1 r2 : Int32} (h1 : ldRes fT fK a kn r1) (h2 : ldRes fT fK a kn r2) : r1 = r2 := by
  by_cases h : 0 ≤ a.toInt ∧ a.toInt ≤ 19 ∧ 0 ≤ kn.toInt ∧ kn.toInt ≤ 100000
  · exact Int32.toInt_inj.mp ((h1.1 h).trans (h2.1 h).symm)
  · exact Int32.toInt_inj.mp ((h1.2 h).trans (h2.2 h).symm)
theorem feed_te {f g f' g' : Nat → Int32} {z z' : Int32} {w : Nat → Int} (h : tpe g z = tpe f z) (h8 : (z.toInt + 20 ≤ 200 → tpe g' z' = apl (tpe g z) z.toInt w 20) ∧ (¬ z.toInt + 20 ≤ 200 → g' = g)) (h9 : (z.toInt + 20 ≤ 200 → tpe f' z' = apl (tpe f z) z.toInt w 20) ∧ (¬ z.toInt + 20 ≤ 200 → f' = f)) (hz : ¬ z.toInt + 20 ≤ 200 → z'.toInt = z.toInt) : tpe g' z' = tpe f' z' := by
  by_cases q : z.toInt + 20 ≤ 200
  · rw [h8.1 q, h9.1 q, h]
  · rw [h8.2 q, h9.2 q]; exact tpe_le h (by have := hz q; omega)
theorem trait_sl {n n' : Int32} {sl fl sl' fl' : Nat → Int32} (h : ∀ k : Nat, (k : Int) < n.toInt → sl k = fl k) (h0 : 0 ≤ n.toInt) (h8 : (n'.toInt = n.toInt ∧ sl' = sl) ∨ (n'.toInt = n.toInt + 1 ∧ sl' = upd sl n.toNatClampNeg 100000)) (h9 : (n'.toInt = n.toInt ∧ fl' = fl) ∨ (n'.toInt = n.toInt + 1 ∧ fl' = upd fl n.toNatClampNeg 100000)) : ∀ k : Nat, (k : Int) < n'.toInt → sl' k = fl' k := by
  intro k hk
  have e0 : n.toNatClampNeg = n.toInt.toNat := rfl
  rcases h8 with ⟨a1, a2⟩ | ⟨a1, a2⟩ <;> rcases h9 with ⟨b1, b2⟩ | ⟨b1, b2⟩
  · rw [a2, b2]; exact h k (by omega)
  · exfalso; omega
  · exfalso; omega
  · rw [a2, b2]
    by_cases q : k = n.toNatClampNeg
    · subst q; rw [pk_us, pk_us]
    · rw [pk_un q, pk_un q]; exact h k (by omega)
theorem lim_same {n tt x r1 r2 : Int32} {sl fl sl' fl' : Nat → Int32} (h : ∀ k : Nat, (k : Int) < n.toInt → sl k = fl k) (h8 : (¬ (0 ≤ x.toInt ∧ x.toInt ≤ 100000) → r1.toInt = (-1) ∧ sl' = sl) ∧ ((0 ≤ x.toInt ∧ x.toInt ≤ 100000) ∧ ¬ (0 ≤ tt.toInt ∧ tt.toInt < n.toInt) → r1.toInt = (-2) ∧ sl' = sl) ∧ ((0 ≤ x.toInt ∧ x.toInt ≤ 100000) ∧ (0 ≤ tt.toInt ∧ tt.toInt < n.toInt) → r1 = sl tt.toNatClampNeg ∧ sl' = upd sl tt.toNatClampNeg x)) (h9 : (¬ (0 ≤ x.toInt ∧ x.toInt ≤ 100000) → r2.toInt = (-1) ∧ fl' = fl) ∧ ((0 ≤ x.toInt ∧ x.toInt ≤ 100000) ∧ ¬ (0 ≤ tt.toInt ∧ tt.toInt < n.toInt) → r2.toInt = (-2) ∧ fl' = fl) ∧ ((0 ≤ x.toInt ∧ x.toInt ≤ 100000) ∧ (0 ≤ tt.toInt ∧ tt.toInt < n.toInt) → r2 = fl tt.toNatClampNeg ∧ fl' = upd fl tt.toNatClampNeg x)) : r1 = r2 ∧ ∀ k : Nat, (k : Int) < n.toInt → sl' k = fl' k := by
  have e0 : tt.toNatClampNeg = tt.toInt.toNat := rfl
  by_cases q : 0 ≤ x.toInt ∧ x.toInt ≤ 100000
  · by_cases w : 0 ≤ tt.toInt ∧ tt.toInt < n.toInt
    · obtain ⟨a1, a2⟩ := h8.2.2 ⟨q, w⟩
      obtain ⟨b1, b2⟩ := h9.2.2 ⟨q, w⟩
      refine ⟨by rw [a1, b1]; exact h _ (by omega), fun k hk => ?_⟩
      rw [a2, b2]
      by_cases v : k = tt.toNatClampNeg
      · subst v; rw [pk_us, pk_us]
      · rw [pk_un v, pk_un v]; exact h k hk
    · obtain ⟨a1, a2⟩ := h8.2.1 ⟨q, w⟩
      obtain ⟨b1, b2⟩ := h9.2.1 ⟨q, w⟩
      exact ⟨Int32.toInt_inj.mp (a1.trans b1.symm), fun k hk => by rw [a2, b2]; exact h k hk⟩
  · obtain ⟨a1, a2⟩ := h8.1 q
    obtain ⟨b1, b2⟩ := h9.1 q
    exact ⟨Int32.toInt_inj.mp (a1.trans b1.symm), fun k hk => by rw [a2, b2]; exact h k hk⟩
theorem tb_low {a : Int32} {n j : Nat} (h0 : 0 ≤ a.toInt) (h1 : a.toInt < 2 ^ n) (hj : tb a j = true) : j < n := by
  have hc : ((2 ^ n : Nat) : Int) = 2 ^ n := by first | exact Int.natCast_pow 2 _ | simp | norm_cast
  have ha := i32_nat a
  have hA := a.toBitVec.isLt
  have h2 : a.toBitVec.toNat < 2 ^ n := by
    rw [← hc] at h1
    omega
  rcases Nat.lt_or_ge j n with q | q
  · exact q
  · have h3 : a.toBitVec.toNat < 2 ^ j := Nat.lt_of_lt_of_le h2 (Nat.pow_le_pow_right (by decide) q)
    unfold tb at hj
    rw [Nat.testBit_lt_two_pow h3] at hj
    cases hj
theorem nd_trait {n n' : Int32} {g f : Nat → Int32} {z : Int32} {R R' nd nd' : Nat → Int32} (h : ndI R nd n.toInt.toNat) (h0 : 0 ≤ n.toInt) (hn : n.toInt ≤ 20) (hT : tpe g z = tpe f z) (h8 : (n'.toInt = n.toInt ∧ nd' = nd) ∨ (n'.toInt = n.toInt + 1 ∧ ∃ p e lk rd, pread (tpe g z) z.toInt n.toInt = .inr (p, e, lk, rd) ∧ nd' = upd nd n.toNatClampNeg (nds nd rd n.toInt.toNat ||| bti n.toInt))) (h9 : (∀ i : Nat, (i : Int) < n.toInt → R' i = R i) ∧ (n'.toInt = n.toInt + 1 → ∃ p e lk rd, pread (tpe f z) z.toInt n.toInt = .inr (p, e, lk, rd) ∧ R' n.toInt.toNat = rd)) : ndI R' nd' n'.toInt.toNat := by
  have e0 : n.toNatClampNeg = n.toInt.toNat := rfl
  rcases h8 with ⟨a1, a2⟩ | ⟨a1, p, e, lk, rd, a2, a3⟩
  · subst a2
    rw [show n'.toInt.toNat = n.toInt.toNat by omega]
    intro i hi
    rw [h9.1 i (by omega)]
    exact h i hi
  · obtain ⟨p2, e2, lk2, rd2, b2, b3⟩ := h9.2 a1
    rw [hT, b2] at a2
    have e3 : rd2 = rd := by cases a2; rfl
    rw [show n'.toInt.toNat = n.toInt.toNat + 1 by omega]
    have hlow := okr_read (n := n.toInt) (g := tpe f z) (z := z.toInt) hn p2 e2 lk2 rd2 b2
    refine ndI_more h (fun i hi => h9.1 i (by omega)) (fun i hi => by rw [a3, pk_un (by omega)]) (fun j hj => by rw [b3] at hj; have := hlow j hj; omega) ?_
    rw [a3, e0, pk_us, b3, e3, show ((n.toInt.toNat : Nat) : Int) = n.toInt by omega]
theorem md_trait {n n' mo : Int32} {gMo us nd nd' : Nat → Int32} {P : Int32 → Prop} (h : ∀ k : Nat, (k : Int) < mo.toInt → gMo k = nds nd (us k) n.toInt.toNat ∧ ∀ j, tb (us k) j = true → j < n.toInt.toNat) (h0 : 0 ≤ n.toInt) (h8 : (n'.toInt = n.toInt ∧ nd' = nd) ∨ (n'.toInt = n.toInt + 1 ∧ ∃ x : Int32, nd' = upd nd n.toNatClampNeg x)) : ∀ k : Nat, (k : Int) < mo.toInt → gMo k = nds nd' (us k) n'.toInt.toNat ∧ ∀ j, tb (us k) j = true → j < n'.toInt.toNat := by
  intro k hk
  obtain ⟨h1, h2⟩ := h k hk
  have e0 : n.toNatClampNeg = n.toInt.toNat := rfl
  rcases h8 with ⟨a1, a2⟩ | ⟨a1, x, a2⟩
  · rw [a2, show n'.toInt.toNat = n.toInt.toNat by omega]; exact ⟨h1, h2⟩
  · rw [show n'.toInt.toNat = n.toInt.toNat + 1 by omega, nds_more h2, nds_cong (nd := nd) (fun i hi => by rw [a2, pk_un (by omega)])]
    exact ⟨h1, fun j hj => by have := h2 j hj; omega⟩
theorem nd_upd {n n' : Int32} {x : RS} {nd nd' : Nat → Int32} (h : (n'.toInt = n.toInt ∧ nd' = nd) ∨ (n'.toInt = n.toInt + 1 ∧ ∃ p e lk rd, x = .inr (p, e, lk, rd) ∧ nd' = upd nd n.toNatClampNeg (nds nd rd n.toInt.toNat ||| bti n.toInt))) : (n'.toInt = n.toInt ∧ nd' = nd) ∨ (n'.toInt = n.toInt + 1 ∧ ∃ x : Int32, nd' = upd nd n.toNatClampNeg x) := by
  rcases h with h | ⟨a1, p, e, lk, rd, a2, a3⟩
  · exact Or.inl h
  · exact Or.inr ⟨a1, _, a3⟩
theorem md_model {n mo mo' a r1 r2 : Int32} {gMo us gMo' us' nd : Nat → Int32} (h : ∀ k : Nat, (k : Int) < mo.toInt → gMo k = nds nd (us k) n.toInt.toNat ∧ ∀ j, tb (us k) j = true → j < n.toInt.toNat) (h0 : 0 ≤ mo.toInt) (h8 : (¬ (0 ≤ a.toInt ∧ a.toInt < 2 ^ n.toInt.toNat) → r1.toInt = (-1) ∧ mo'.toInt = mo.toInt ∧ gMo' = gMo) ∧ ((0 ≤ a.toInt ∧ a.toInt < 2 ^ n.toInt.toNat) ∧ 10 ≤ mo.toInt → r1.toInt = (-5) ∧ mo'.toInt = mo.toInt ∧ gMo' = gMo) ∧ ((0 ≤ a.toInt ∧ a.toInt < 2 ^ n.toInt.toNat) ∧ mo.toInt < 10 → r1.toInt = mo.toInt ∧ mo'.toInt = mo.toInt + 1 ∧ gMo' = upd gMo mo.toNatClampNeg (nds nd a n.toInt.toNat))) (h9 : (¬ (0 ≤ a.toInt ∧ a.toInt < 2 ^ n.toInt.toNat) → r2.toInt = (-1) ∧ mo'.toInt = mo.toInt ∧ us' = us) ∧ ((0 ≤ a.toInt ∧ a.toInt < 2 ^ n.toInt.toNat) ∧ 10 ≤ mo.toInt → r2.toInt = (-5) ∧ mo'.toInt = mo.toInt ∧ us' = us) ∧ ((0 ≤ a.toInt ∧ a.toInt < 2 ^ n.toInt.toNat) ∧ mo.toInt < 10 → r2.toInt = mo.toInt ∧ mo'.toInt = mo.toInt + 1 ∧ us' = upd us mo.toNatClampNeg a)) : ∀ k : Nat, (k : Int) < mo'.toInt → gMo' k = nds nd (us' k) n.toInt.toNat ∧ ∀ j, tb (us' k) j = true → j < n.toInt.toNat := by
  intro k hk
  have e0 : mo.toNatClampNeg = mo.toInt.toNat := rfl
  by_cases q : 0 ≤ a.toInt ∧ a.toInt < 2 ^ n.toInt.toNat
  · by_cases w : 10 ≤ mo.toInt
    · obtain ⟨-, a1, a2⟩ := h8.2.1 ⟨q, w⟩
      obtain ⟨-, -, b2⟩ := h9.2.1 ⟨q, w⟩
      rw [a2, b2]; exact h k (by omega)
    · obtain ⟨-, a1, a2⟩ := h8.2.2 ⟨q, by omega⟩
      obtain ⟨-, -, b2⟩ := h9.2.2 ⟨q, by omega⟩
      rw [a2, b2]
      by_cases v : k = mo.toNatClampNeg
      · subst v
        rw [pk_us, pk_us]
        exact ⟨rfl, fun j hj => tb_low q.1 q.2 hj⟩
      · rw [pk_un v, pk_un v]; exact h k (by omega)
  · obtain ⟨-, a1, a2⟩ := h8.1 q
    obtain ⟨-, -, b2⟩ := h9.1 q
    rw [a2, b2]; exact h k (by omega)
theorem need_same {n mo a r1 r2 : Int32} {gMo us nd R : Nat → Int32} (hD : ndI R nd n.toInt.toNat) (hn : n.toInt ≤ 20) (h : ∀ k : Nat, (k : Int) < mo.toInt → gMo k = nds nd (us k) n.toInt.toNat ∧ ∀ j, tb (us k) j = true → j < n.toInt.toNat) (h8 : (0 ≤ a.toInt ∧ a.toInt < mo.toInt → r1 = gMo a.toNatClampNeg) ∧ (¬ (0 ≤ a.toInt ∧ a.toInt < mo.toInt) → r1.toInt = 0)) (h9 : (0 ≤ a.toInt ∧ a.toInt < mo.toInt → r2 = dsc R (us a.toNatClampNeg) n.toInt.toNat) ∧ (¬ (0 ≤ a.toInt ∧ a.toInt < mo.toInt) → r2.toInt = 0)) : r1 = r2 := by
  have e0 : a.toNatClampNeg = a.toInt.toNat := rfl
  by_cases q : 0 ≤ a.toInt ∧ a.toInt < mo.toInt
  · obtain ⟨h1, h2⟩ := h a.toNatClampNeg (by omega)
    rw [h8.1 q, h9.1 q, h1, dsc_nds hD (by omega) h2]
  · exact Int32.toInt_inj.mp ((h8.2 q).trans (h9.2 q).symm)
theorem hung_same {n mo tt r1 r2 : Int32} {gMo us nd R : Nat → Int32} (hD : ndI R nd n.toInt.toNat) (hn : n.toInt ≤ 20) (h0 : 0 ≤ mo.toInt) (h : ∀ k : Nat, (k : Int) < mo.toInt → gMo k = nds nd (us k) n.toInt.toNat ∧ ∀ j, tb (us k) j = true → j < n.toInt.toNat) (h8 : (0 ≤ tt.toInt ∧ tt.toInt < n.toInt → r1.toInt = (hgc gMo tt.toInt.toNat mo.toInt.toNat : Int)) ∧ (¬ (0 ≤ tt.toInt ∧ tt.toInt < n.toInt) → r1.toInt = (-1))) (h9 : (0 ≤ tt.toInt ∧ tt.toInt < n.toInt → r2.toInt = (hgc (fun k => dsc R (us k) n.toInt.toNat) tt.toInt.toNat mo.toInt.toNat : Int)) ∧ (¬ (0 ≤ tt.toInt ∧ tt.toInt < n.toInt) → r2.toInt = (-1))) : r1 = r2 := by
  apply Int32.toInt_inj.mp
  by_cases q : 0 ≤ tt.toInt ∧ tt.toInt < n.toInt
  · rw [h8.1 q, h9.1 q, hgc_cong (f := gMo) (g := fun k => dsc R (us k) n.toInt.toNat) (fun k hk => ?_)]
    obtain ⟨h1, h2⟩ := h k (by omega)
    rw [h1]; exact (dsc_nds hD (by omega) h2).symm
  · rw [h8.2 q, h9.2 q]
