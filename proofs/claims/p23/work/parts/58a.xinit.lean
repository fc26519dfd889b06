theorem dX5_init_0 : decode cX5_init 0 = .ok (.aload_n 0, 1) := by decide +kernel
theorem dX5_init_1 : decode cX5_init 1 = .ok (.invokespecial 3, 3) := by decide +kernel
theorem dX5_init_4 : decode cX5_init 4 = .ok (.aload_n 0, 1) := by decide +kernel
theorem dX5_init_5 : decode cX5_init 5 = .ok (.sipush 200, 3) := by decide +kernel
theorem dX5_init_8 : decode cX5_init 8 = .ok (.newarray .int, 2) := by decide +kernel
theorem dX5_init_10 : decode cX5_init 10 = .ok (.putfield 9, 3) := by decide +kernel
theorem dX5_init_13 : decode cX5_init 13 = .ok (.return_, 1) := by decide +kernel
set_option maxHeartbeats 4000000 in
set_option maxRecDepth 100000 in
theorem c_J7_fill_53178 (l : Launch) (dC : Nat → ClassId) (dI : Nat → Nat → Nat) (sz : Nat) (a : Nat) (cA : ClassId) (f : Nat → Int32) (v : Int32)  : Met l yJ7_fill_53178 wsJ7_fill_53178 ({ frames := 0, cells := 0, slots := 0, locals := 0 }) (va_Pc [.ref a, .int v] (fun U => U.heap.size = sz ∧ va_P (dC, dI) vwCl [(a, .inl (cA, 20, .inl f))] U.heap ∧ va_K (dC, dI) vwCl [(cA, .int)] U ∧ va_D (fun _ => True) [(a, .inl (cA, 20, .inl f))] ∧ nw_ok U)) (va_Qv (fun (u : (Nat → Int32)) => ∀ k : Nat, k < 20 → u k = v) (fun (u : (Nat → Int32)) (t : State) => va_P (dC, dI) vwCl [(a, .inl (cA, 20, .inl u))] t.heap ∧ va_K (dC, dI) vwCl [(cA, .int)] t ∧ va_D (va_A [(a, .inl (cA, 20, .inl f))] sz) [(a, .inl (cA, 20, .inl u))]) (va_A [(a, .inl (cA, 20, .inl f))] sz)) 0 0 (va_A [(a, .inl (cA, 20, .inl f))] sz) := by
  refine Met.ofW (cc := cJ7_fill_53178) (maxL := 4) (ret := none) (by decide) rfl ?_
  intro p e s m args below meth c s₁ B hml hv
  obtain ⟨rfl, hsz, hP, hK, hD0, hN⟩ := hv
  have hx := B.exec
  have hb := B.bytes
  have hr := B.returns
  have hts := atoms_spec (ws := wsJ7_fill_53178) B.pre
  have hown : s.vm.findClass RJ7 = some m.cls := findClass_of_methodNamed B.named
  have hlocks := B.notSynchronized
  subst hsz
  have hD := hD0.self (sz := s.heap.size)
  generalize hAe : va_A [(a, .inl (cA, 20, .inl f))] s.heap.size = A at hD ⊢
  have hA : ∀ q : Nat, s.heap.size ≤ q → A q := fun q h => by rw [← hAe]; exact Or.inr h
  have hS : va_S A s.heap s.heap [] := va_S.rf
  have hP : va_P (dC, dI) vwCl [(a, .inl (cA, 20, .inl f))] s.heap := hP
  have hl := lv_entry ([.ref a, .int v]) (n := 4) (Nat.le_of_ble_eq_true rfl)
  rw [lg_entry_eq]
  generalize (lg_sl ([.ref a, .int v]) ++ List.replicate (4 - (lg_sl ([.ref a, .int v])).length) Slot.unset).toArray = ls at hl ⊢
  have hl : lv_has ls 4 [(0, .ref a), (1, .int v)] := hl
  generalize hQe : MQ below _ _ _ _ _ _ = QQ
  refine lv_iconst (v := 0) hx hb dJ7_fill_53178_0 (by decide) ?_
  refine lv_istore_n (lv' := [(2, .int 0), (0, .ref a), (1, .int v)]) hx hb dJ7_fill_53178_1 rfl hl (by decide) rfl (fun ls hl => ?_)
  refine lv_aload_n hx hb dJ7_fill_53178_2 rfl (lv_at hl 1 rfl) ?_
  refine va_alen (v := 20) hx hb hK hP 0 0 rfl rfl (by first | rfl | decide) dJ7_fill_53178_3 ?_
  refine lv_istore_n (lv' := [(3, .int 20), (2, .int 0), (0, .ref a), (1, .int v)]) hx hb dJ7_fill_53178_4 rfl hl (by decide) rfl (fun ls hl => ?_)
  have loop : ∀ (n : Nat) (i5 : Int32) (g_a : Nat → Int32) (H : Heap) (locs : List Loc) (ls : Array Slot), 0 ≤ i5.toInt → i5.toInt ≤ 20 → 20 < i5.toInt + n → (∀ k : Nat, (k : Int) < i5.toInt → g_a k = v) → va_P (dC, dI) vwCl [(a, .inl (cA, 20, .inl g_a))] H → va_D A [(a, .inl (cA, 20, .inl g_a))] → va_S A s.heap H locs → lv_has ls 4 [(3, .int 20), (2, .int i5), (0, .ref a), (1, .int v)] → W p l e ({ frames := 0, cells := 0, slots := 0, locals := 0 }) s m ([.ref a, .int v] : List Value).toArray below meth c H locs 0 0 QQ (F0 m 5 ls []) := by
    intro n
    induction n with
    | zero => intro i5 g_a H locs ls hi0 hi1 hi2; exfalso; omega
    | succ n ih =>
      intro i5 g_a H locs ls hi0 hi1 hi2 hv0 hP hD hS hl
      refine lv_iload_n hx hb dJ7_fill_53178_5 rfl (lv_at hl 1 rfl) ?_
      refine lv_iload_n hx hb dJ7_fill_53178_6 rfl (lv_at hl 0 rfl) ?_
      refine lv_icmp_ge (tgt := 20) hx hb dJ7_fill_53178_7 (by decide) (fun c_1 => ?_) (fun c_1 => ?_)
      · have dc_1 : 20 ≤ i5.toInt := jI_le c_1 (by decide) rfl
        have hP9 := hP.sub (ws' := [(a, .inl (cA, 20, .inl g_a))]) [0] rfl
        have hD9 := hD.sub (ws' := [(a, .inl (cA, 20, .inl g_a))]) [0] (by decide) rfl
        have hK9 := hK.sub (tys' := [(cA, .int)]) [0] rfl
        subst hQe
        exact W.vret hx hb hr (fun t ht hW => ⟨⟨g_a, rfl, by intro k hk; exact hv0 k (by omega), by rw [ht]; exact hP9, va_K.moved hW.alike hK9, hD9⟩, hS.F ht⟩) hS.2.2 dJ7_fill_53178_20
      · have dc_1 : i5.toInt < 20 := jI_nle c_1 (by decide) rfl
        refine lv_aload_n hx hb dJ7_fill_53178_10 rfl (lv_at hl 2 rfl) ?_
        refine lv_iload_n hx hb dJ7_fill_53178_11 rfl (lv_at hl 1 rfl) ?_
        refine lv_iload_n hx hb dJ7_fill_53178_12 rfl (lv_at hl 3 rfl) ?_
        have h_2 : vp_in i5 20 := (vp_in_iff.mpr ⟨by omega, by omega⟩)
        refine va_iast hx hb hK hP hD hS 0 0 rfl rfl h_2 dJ7_fill_53178_13 (fun H locs hP hD hS => ?_)
        have hP : va_P (dC, dI) vwCl [(a, .inl (cA, 20, .inl (upd g_a i5.toNatClampNeg v)))] H := hP
        have hD : va_D A [(a, .inl (cA, 20, .inl (upd g_a i5.toNatClampNeg v)))] := hD
        obtain ⟨g_3, eg_3⟩ : ∃ g : Nat → Int32, g = upd g_a i5.toNatClampNeg v := ⟨_, rfl⟩
        rw [← eg_3] at hP hD
        obtain ⟨x_4, ex_4⟩ : ∃ y : Int32, y = i5 + 1 := ⟨_, rfl⟩
        have dx_4 : x_4.toInt = i5.toInt + 1 := by rw [ex_4]; exact jI_add rfl (by decide) (by omega) (by omega)
        refine lv_iinc (v := x_4) (lv' := [(2, .int x_4), (3, .int 20), (0, .ref a), (1, .int v)]) hx hb dJ7_fill_53178_14 hl (k := 1) rfl (by rw [ex_4]; rfl) (by decide) rfl (fun ls hl => ?_)
        refine lv_goto (tgt := 5) hx hb dJ7_fill_53178_17 (by decide) ?_
        exact ih x_4 g_3 _ _ ls (by omega) (by omega) (by omega) (jfill hv0 eg_3 hi0 (by omega))  (hP.sub [0] rfl) (hD.sub [0] (by decide) rfl) hS (lv_sub hl [1, 0, 2, 3] rfl)
  exact loop 21 0 f _ _ ls (by decide) (by decide) (by decide) (fun k hk => absurd hk (by simp))  hP hD hS (lv_sub hl [0, 1, 2, 3] rfl)

set_option maxHeartbeats 4000000 in
set_option maxRecDepth 100000 in
theorem c_X5_init (l : Launch) (dC : Nat → ClassId) (dI : Nat → Nat → Nat) (sz : Nat) (hTape : Nat)  : Met l yX5_init wsX5_init ({ frames := 1, cells := 1, slots := 200, locals := 20 }) (va_Pc [.ref hTape] (fun U => U.heap.size = sz ∧ va_P (dC, dI) vwCl [(hTape, .inr (5, [.null, .int 0]))] U.heap ∧ va_K (dC, dI) vwCl [] U ∧ va_D (fun _ => True) [(hTape, .inr (5, [.null, .int 0]))] ∧ nw_ok U)) (va_Qv (fun (_ : Unit) => True) (fun (_ : Unit) (t : State) => ∃ (aB : Nat) (cB : ClassId), va_P (dC, dI) vwCl [(hTape, .inr (5, [.ref aB, .int 0])), (aB, .inl (cB, 200, .inl (fun _ => 0)))] t.heap ∧ va_K (dC, dI) vwCl [(cB, .int)] t ∧ va_D (va_A [(hTape, .inr (5, [.null, .int 0]))] sz) [(hTape, .inr (5, [.ref aB, .int 0])), (aB, .inl (cB, 200, .inl (fun _ => 0)))]) (va_A [(hTape, .inr (5, [.null, .int 0]))] sz)) 1 200 (va_A [(hTape, .inr (5, [.null, .int 0]))] sz) := by
  refine Met.ofW (cc := cX5_init) (maxL := 1) (ret := none) (by decide) rfl ?_
  intro p e s m args below meth c s₁ B hml hv
  obtain ⟨rfl, hsz, hP, hK, hD0, hN⟩ := hv
  have hx := B.exec
  have hb := B.bytes
  have hr := B.returns
  have hts := atoms_spec (ws := wsX5_init) B.pre
  have hown : s.vm.findClass RX5 = some m.cls := findClass_of_methodNamed B.named
  have hlocks := B.notSynchronized
  have hin : meth.name = "<init>" := (name_of_methodNamed B.named B.method).1
  subst hsz
  have hD := hD0.self (sz := s.heap.size)
  generalize hAe : va_A [(hTape, .inr (5, [.null, .int 0]))] s.heap.size = A at hD ⊢
  have hA : ∀ q : Nat, s.heap.size ≤ q → A q := fun q h => by rw [← hAe]; exact Or.inr h
  have hS : va_S A s.heap s.heap [] := va_S.rf
  have hP : va_P (dC, dI) vwCl [(hTape, .inr (5, [.null, .int 0]))] s.heap := hP
  have hIX5 : ∀ w ∈ u_ws RX5 TX5 2, w ∈ wsX5_init := by decide +kernel
  have hl := lv_entry ([.ref hTape]) (n := 1) (Nat.le_of_ble_eq_true rfl)
  rw [lg_entry_eq]
  generalize (lg_sl ([.ref hTape]) ++ List.replicate (1 - (lg_sl ([.ref hTape])).length) Slot.unset).toArray = ls at hl ⊢
  have hl : lv_has ls 1 [(0, .ref hTape)] := hl
  refine lv_aload_n hx hb dX5_init_0 rfl (lv_at hl 0 rfl) ?_
  refine W.objInit hx hb hown (hts (.methodLink RX5 3 objectInit) (by decide +kernel)) (hts (.instanceMethod objectInit) (by decide +kernel)) (hts (.code objectInit ⟨#[0xb1]⟩ 1 none) (by decide +kernel)) rfl (by rw [hml]; exact hl.1) rfl dX5_init_1 (Nat.le_of_ble_eq_true rfl) (Nat.le_of_ble_eq_true rfl) ?_
  refine W.eq (g2 := F0 m 4 ls []) rfl ?_
  refine lv_aload_n hx hb dX5_init_4 rfl (lv_at hl 0 rfl) ?_
  refine lv_sipush (v := 200) hx hb dX5_init_5 (by decide) ?_
  refine va_newa (atype := .int) (a0 := (200, .inl (fun _ => 0))) (ty := .int) (N' := 200) hx hb (hts (.arrayClass .int) (by decide +kernel)) rfl hK hP hD hS hA (jnew_int 200) (by decide) (by decide) (jnb_int (by decide)) (by decide) (by decide) dX5_init_8 (fun q_1 cA_2 H hK hP hD hS => ?_)
  have hP : va_P (dC, dI) vwCl [(hTape, .inr (5, [.null, .int 0])), (q_1, .inl (cA_2, 200, .inl (fun _ => 0)))] H := hP
  have hD : va_D A [(hTape, .inr (5, [.null, .int 0])), (q_1, .inl (cA_2, 200, .inl (fun _ => 0)))] := hD
  have hK : va_K (dC, dI) vwCl [(cA_2, .int)] s := hK
  refine W.widen (k := 1) (n := 200) (Nat.le_of_ble_eq_true rfl) (Nat.le_of_ble_eq_true rfl) ?_
  refine va_putF (D := (dC, dI)) (ci := 5) (v := .ref q_1) (ty := (.array .int)) (C := RX5) (T := TX5) (N := 2) hx hb hts hIX5 tyX5 tyX5_ok nmX5 hown hK hP hD hS 0 rfl rfl 0 (by decide) (hts (.fieldLink RX5 9 "TraitHouse$Tape" "bytes" "[I") (by decide +kernel)) (fun _ h9 => h9) rfl hin rfl (by decide +kernel) rfl rfl (Nat.le_of_ble_eq_true rfl) dX5_init_10 (fun H locs hP hD hS => ?_)
  have hP : va_P (dC, dI) vwCl [(hTape, .inr (5, [.ref q_1, .int 0])), (q_1, .inl (cA_2, 200, .inl (fun _ => 0)))] H := hP
  have hD : va_D A [(hTape, .inr (5, [.ref q_1, .int 0])), (q_1, .inl (cA_2, 200, .inl (fun _ => 0)))] := hD
  have hP9 := hP.sub (ws' := [(hTape, .inr (5, [.ref q_1, .int 0])), (q_1, .inl (cA_2, 200, .inl (fun _ => 0)))]) [0, 1] rfl
  have hD9 := hD.sub (ws' := [(hTape, .inr (5, [.ref q_1, .int 0])), (q_1, .inl (cA_2, 200, .inl (fun _ => 0)))]) [0, 1] (by decide) rfl
  have hK9 := hK.sub (tys' := [(cA_2, .int)]) [0] rfl
  refine W.widen (k := 1) (n := 200) (Nat.le_of_ble_eq_true rfl) (Nat.le_of_ble_eq_true rfl) ?_
  exact W.vret hx hb hr (fun t ht hW => ⟨⟨(), rfl, trivial, q_1, cA_2, by rw [ht]; exact hP9, va_K.moved hW.alike hK9, hD9⟩, hS.F ht⟩) hS.2.2 dX5_init_13
