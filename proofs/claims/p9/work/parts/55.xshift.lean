theorem dJ7_fill_53178_0 : decode cJ7_fill_53178 0 = .ok (.iconst 0, 1) := by decide +kernel
theorem dJ7_fill_53178_1 : decode cJ7_fill_53178 1 = .ok (.istore_n 2, 1) := by decide +kernel
theorem dJ7_fill_53178_2 : decode cJ7_fill_53178 2 = .ok (.aload_n 0, 1) := by decide +kernel
theorem dJ7_fill_53178_3 : decode cJ7_fill_53178 3 = .ok (.arraylength, 1) := by decide +kernel
theorem dJ7_fill_53178_4 : decode cJ7_fill_53178 4 = .ok (.istore_n 3, 1) := by decide +kernel
theorem dJ7_fill_53178_5 : decode cJ7_fill_53178 5 = .ok (.iload_n 2, 1) := by decide +kernel
theorem dJ7_fill_53178_6 : decode cJ7_fill_53178 6 = .ok (.iload_n 3, 1) := by decide +kernel
theorem dJ7_fill_53178_7 : decode cJ7_fill_53178 7 = .ok (.if_icmp .ge 13, 3) := by decide +kernel
theorem dJ7_fill_53178_20 : decode cJ7_fill_53178 20 = .ok (.return_, 1) := by decide +kernel
theorem dJ7_fill_53178_10 : decode cJ7_fill_53178 10 = .ok (.aload_n 0, 1) := by decide +kernel
theorem dJ7_fill_53178_11 : decode cJ7_fill_53178 11 = .ok (.iload_n 2, 1) := by decide +kernel
theorem dJ7_fill_53178_12 : decode cJ7_fill_53178 12 = .ok (.iload_n 1, 1) := by decide +kernel
theorem dJ7_fill_53178_13 : decode cJ7_fill_53178 13 = .ok (.iastore, 1) := by decide +kernel
theorem dJ7_fill_53178_14 : decode cJ7_fill_53178 14 = .ok (.iinc 2 1, 3) := by decide +kernel
theorem dJ7_fill_53178_17 : decode cJ7_fill_53178 17 = .ok (.goto (-12), 3) := by decide +kernel
theorem dJ7_fill_d0a16_0 : decode cJ7_fill_d0a16 0 = .ok (.iconst 0, 1) := by decide +kernel
theorem dJ7_fill_d0a16_1 : decode cJ7_fill_d0a16 1 = .ok (.istore_n 3, 1) := by decide +kernel
theorem dJ7_fill_d0a16_2 : decode cJ7_fill_d0a16 2 = .ok (.aload_n 0, 1) := by decide +kernel
theorem dJ7_fill_d0a16_3 : decode cJ7_fill_d0a16 3 = .ok (.arraylength, 1) := by decide +kernel
theorem dJ7_fill_d0a16_4 : decode cJ7_fill_d0a16 4 = .ok (.istore 4, 2) := by decide +kernel
theorem dJ7_fill_d0a16_6 : decode cJ7_fill_d0a16 6 = .ok (.iload_n 3, 1) := by decide +kernel
theorem dJ7_fill_d0a16_7 : decode cJ7_fill_d0a16 7 = .ok (.iload 4, 2) := by decide +kernel
theorem dJ7_fill_d0a16_9 : decode cJ7_fill_d0a16 9 = .ok (.if_icmp .ge 13, 3) := by decide +kernel
theorem dJ7_fill_d0a16_22 : decode cJ7_fill_d0a16 22 = .ok (.return_, 1) := by decide +kernel
theorem dJ7_fill_d0a16_12 : decode cJ7_fill_d0a16 12 = .ok (.aload_n 0, 1) := by decide +kernel
theorem dJ7_fill_d0a16_13 : decode cJ7_fill_d0a16 13 = .ok (.iload_n 3, 1) := by decide +kernel
theorem dJ7_fill_d0a16_14 : decode cJ7_fill_d0a16 14 = .ok (.lload_n 1, 1) := by decide +kernel
theorem dJ7_fill_d0a16_15 : decode cJ7_fill_d0a16 15 = .ok (.lastore, 1) := by decide +kernel
theorem dJ7_fill_d0a16_16 : decode cJ7_fill_d0a16 16 = .ok (.iinc 3 1, 3) := by decide +kernel
theorem dJ7_fill_d0a16_19 : decode cJ7_fill_d0a16 19 = .ok (.goto (-13), 3) := by decide +kernel
set_option maxHeartbeats 8000000 in
set_option maxRecDepth 100000 in
theorem k_J7_fill_20 (l : Launch) (dC : Nat → ClassId) (dI : Nat → Nat → Nat) (cA : Nat → ClassId) (sz : Nat) (gfa : Nat → Int32) (fa : Nat) (v : Int32)   : Met l yJ7_fill_53178 wsJ7_fill_53178 ({ frames := 0, cells := 0, slots := 0, locals := 0 }) (va_Pc [.ref fa, .int v] (fun U => U.heap.size = sz ∧ va_P (dC, dI) vwCl [(fa, .inl (cA 0, 20, .inl gfa))] U.heap ∧ va_K (dC, dI) vwCl (tyL cA) U ∧ va_D (fun _ => True) [(fa, .inl (cA 0, 20, .inl gfa))] ∧ nw_ok U)) (va_Qv (fun (u : (Nat → Int32)) => True) (fun (u : (Nat → Int32)) (t : State) => va_P (dC, dI) vwCl [(fa, .inl (cA 0, 20, .inl u))] t.heap ∧ va_D (va_A [(fa, .inl (cA 0, 20, .inl gfa))] sz) [(fa, .inl (cA 0, 20, .inl u))]) (va_A [(fa, .inl (cA 0, 20, .inl gfa))] sz)) 0 0 (va_A [(fa, .inl (cA 0, 20, .inl gfa))] sz) := by
  refine Met.ofW (cc := cJ7_fill_53178) (maxL := 4) (ret := none) (by decide) rfl ?_
  intro p e s m args below meth c s₁ B hml hv
  obtain ⟨rfl, hsz, hP, hK, hD0, hN⟩ := hv
  have hx := B.exec
  have hb := B.bytes
  have hr := B.returns
  have hts := atoms_spec (ws := wsJ7_fill_53178) B.pre
  have hown : s.vm.findClass RJ7 = some m.cls := findClass_of_methodNamed B.named
  have hlocks := B.notSynchronized
  subst hsz
  have hD := hD0.self (sz := s.heap.size)
  generalize hAe : va_A [(fa, .inl (cA 0, 20, .inl gfa))] s.heap.size = A at hD ⊢
  have hA : ∀ q : Nat, s.heap.size ≤ q → A q := fun q h => by rw [← hAe]; exact Or.inr h
  have hS : va_S A s.heap s.heap [] := va_S.rf
  have hl := lv_entry ([.ref fa, .int v]) (n := 4) (Nat.le_of_ble_eq_true rfl)
  rw [lg_entry_eq]
  generalize (lg_sl ([.ref fa, .int v]) ++ List.replicate (4 - (lg_sl ([.ref fa, .int v])).length) Slot.unset).toArray = ls at hl ⊢
  have hl : lv_has ls 4 [(0, .ref fa), (1, .int v)] := hl
  generalize hQe : MQ below _ _ _ _ _ _ = QQ
  refine lv_iconst (v := 0) hx hb dJ7_fill_53178_0 (by decide) ?_
  refine lv_istore_n (lv' := [(2, .int 0), (0, .ref fa), (1, .int v)]) hx hb dJ7_fill_53178_1 rfl hl (by decide) rfl (fun ls hl => ?_)
  refine lv_aload_n hx hb dJ7_fill_53178_2 rfl (lv_at hl 1 rfl) ?_
  refine va_alen (v := 20) hx hb hK hP 0 0 rfl rfl (by first | rfl | decide) dJ7_fill_53178_3 ?_
  refine lv_istore_n (lv' := [(3, .int 20), (2, .int 0), (0, .ref fa), (1, .int v)]) hx hb dJ7_fill_53178_4 rfl hl (by decide) rfl (fun ls hl => ?_)
  have loop5_1 : ∀ (n : Nat) (i2 : Int32) (w_gfa_5 : Nat → Int32) (H : Heap) (locs : List Loc) (ls : Array Slot), 20 - i2.toInt < (n : Int) → (0 ≤ i2.toInt ∧ i2.toInt ≤ 20) → va_P (dC, dI) vwCl [(fa, .inl (cA 0, 20, .inl w_gfa_5))] H → va_D A [(fa, .inl (cA 0, 20, .inl w_gfa_5))] → va_S A s.heap H locs → lv_has ls 4 [(3, .int 20), (2, .int i2), (0, .ref fa), (1, .int v)] → W p l e ({ frames := 0, cells := 0, slots := 0, locals := 0 }) s m ([.ref fa, .int v] : List Value).toArray below meth c H locs 0 0 QQ (F0 m 5 ls []) := by
    intro n
    induction n with
    | zero => intro i2 w_gfa_5 H locs ls hme hv0_5; exfalso; omega
    | succ n ih_5 =>
      intro i2 w_gfa_5 H locs ls hme_5 hv0_5 hP hD hS hl
      refine lv_iload_n hx hb dJ7_fill_53178_5 rfl (lv_at hl 1 rfl) ?_
      refine lv_iload_n hx hb dJ7_fill_53178_6 rfl (lv_at hl 0 rfl) ?_
      refine lv_icmp_ge (tgt := 20) hx hb dJ7_fill_53178_7 (by decide) (fun c_2 => ?_) (fun c_2 => ?_)
      · have dc_2 : 20 ≤ i2.toInt := jI_le c_2 (by decide) rfl
        have hP9 := hP.sub (ws' := [(fa, .inl (cA 0, 20, .inl w_gfa_5))]) [0] rfl
        have hD9 := hD.sub (ws' := [(fa, .inl (cA 0, 20, .inl w_gfa_5))]) [0] (by decide) rfl
        subst hQe
        exact W.vret hx hb hr (fun t ht hW => ⟨⟨w_gfa_5, rfl, trivial, by rw [ht]; exact hP9, hD9⟩, hS.F ht⟩) hS.2.2 dJ7_fill_53178_20
      · have dc_2 : i2.toInt < 20 := jI_nle c_2 (by decide) rfl
        refine lv_aload_n hx hb dJ7_fill_53178_10 rfl (lv_at hl 2 rfl) ?_
        refine lv_iload_n hx hb dJ7_fill_53178_11 rfl (lv_at hl 1 rfl) ?_
        refine lv_iload_n hx hb dJ7_fill_53178_12 rfl (lv_at hl 3 rfl) ?_
        have h_3 : vp_in i2 20 := (vp_in_iff.mpr ⟨by omega, by omega⟩)
        refine va_iast hx hb hK hP hD hS 0 0 rfl rfl h_3 dJ7_fill_53178_13 (fun H locs hP hD hS => ?_)
        replace hP : va_P (dC, dI) vwCl [(fa, .inl (cA 0, 20, .inl (upd w_gfa_5 i2.toNatClampNeg v)))] H := hP
        replace hD : va_D A [(fa, .inl (cA 0, 20, .inl (upd w_gfa_5 i2.toNatClampNeg v)))] := hD
        obtain ⟨g_4, eg_4⟩ : ∃ g : Nat → Int32, g = upd w_gfa_5 i2.toNatClampNeg v := ⟨_, rfl⟩
        rw [← eg_4] at hP hD
        obtain ⟨x_5, ex_5⟩ : ∃ y : Int32, y = i2 + 1 := ⟨_, rfl⟩
        have dx_5 : x_5.toInt = i2.toInt + 1 := by rw [ex_5]; exact jI_add rfl (by decide) (by omega) (by omega)
        refine lv_iinc (v := x_5) (lv' := [(2, .int x_5), (3, .int 20), (0, .ref fa), (1, .int v)]) hx hb dJ7_fill_53178_14 hl (k := 1) rfl (by rw [ex_5]; rfl) (by decide) rfl (fun ls hl => ?_)
        refine lv_goto (tgt := 5) hx hb dJ7_fill_53178_17 (by decide) ?_
        exact ih_5 x_5 g_4 _ _ ls (by omega) (by omega) (hP.sub [0] rfl) (hD.sub [0] (by decide) rfl) hS (lv_sub hl [1, 0, 2, 3] rfl)
  have hk_6 : (0 : Int32).toInt = 0 := by decide
  exact loop5_1 (Int.toNat (20 - (0 : Int32).toInt) + 1) 0 gfa _ _ ls (by omega) (by omega) hP hD hS (lv_sub hl [0, 1, 2, 3] rfl)

set_option maxHeartbeats 8000000 in
set_option maxRecDepth 100000 in
theorem k_J7_fillL_20 (l : Launch) (dC : Nat → ClassId) (dI : Nat → Nat → Nat) (cA : Nat → ClassId) (sz : Nat) (gfa : Nat → Int64) (fa : Nat) (v : Int64)   : Met l yJ7_fill_d0a16 wsJ7_fill_d0a16 ({ frames := 0, cells := 0, slots := 0, locals := 0 }) (va_Pc [.ref fa, .long v] (fun U => U.heap.size = sz ∧ va_P (dC, dI) vwCl [(fa, .inl (cA 1, 20, .inr (.inl gfa)))] U.heap ∧ va_K (dC, dI) vwCl (tyL cA) U ∧ va_D (fun _ => True) [(fa, .inl (cA 1, 20, .inr (.inl gfa)))] ∧ nw_ok U)) (va_Qv (fun (u : (Nat → Int64)) => True) (fun (u : (Nat → Int64)) (t : State) => va_P (dC, dI) vwCl [(fa, .inl (cA 1, 20, .inr (.inl u)))] t.heap ∧ va_D (va_A [(fa, .inl (cA 1, 20, .inr (.inl gfa)))] sz) [(fa, .inl (cA 1, 20, .inr (.inl u)))]) (va_A [(fa, .inl (cA 1, 20, .inr (.inl gfa)))] sz)) 0 0 (va_A [(fa, .inl (cA 1, 20, .inr (.inl gfa)))] sz) := by
  refine Met.ofW (cc := cJ7_fill_d0a16) (maxL := 5) (ret := none) (by decide) rfl ?_
  intro p e s m args below meth c s₁ B hml hv
  obtain ⟨rfl, hsz, hP, hK, hD0, hN⟩ := hv
  have hx := B.exec
  have hb := B.bytes
  have hr := B.returns
  have hts := atoms_spec (ws := wsJ7_fill_d0a16) B.pre
  have hown : s.vm.findClass RJ7 = some m.cls := findClass_of_methodNamed B.named
  have hlocks := B.notSynchronized
  subst hsz
  have hD := hD0.self (sz := s.heap.size)
  generalize hAe : va_A [(fa, .inl (cA 1, 20, .inr (.inl gfa)))] s.heap.size = A at hD ⊢
  have hA : ∀ q : Nat, s.heap.size ≤ q → A q := fun q h => by rw [← hAe]; exact Or.inr h
  have hS : va_S A s.heap s.heap [] := va_S.rf
  have hl := lv_entry ([.ref fa, .long v]) (n := 5) (Nat.le_of_ble_eq_true rfl)
  rw [lg_entry_eq]
  generalize (lg_sl ([.ref fa, .long v]) ++ List.replicate (5 - (lg_sl ([.ref fa, .long v])).length) Slot.unset).toArray = ls at hl ⊢
  have hl : lv_has ls 5 [(0, .ref fa), (1, .long v)] := hl
  generalize hQe : MQ below _ _ _ _ _ _ = QQ
  refine lv_iconst (v := 0) hx hb dJ7_fill_d0a16_0 (by decide) ?_
  refine lv_istore_n (lv' := [(3, .int 0), (0, .ref fa), (1, .long v)]) hx hb dJ7_fill_d0a16_1 rfl hl (by decide) rfl (fun ls hl => ?_)
  refine lv_aload_n hx hb dJ7_fill_d0a16_2 rfl (lv_at hl 1 rfl) ?_
  refine va_alen (v := 20) hx hb hK hP 0 1 rfl rfl (by first | rfl | decide) dJ7_fill_d0a16_3 ?_
  refine lv_istore (lv' := [(4, .int 20), (3, .int 0), (0, .ref fa), (1, .long v)]) hx hb dJ7_fill_d0a16_4 hl (by decide) rfl (fun ls hl => ?_)
  have loop6_1 : ∀ (n : Nat) (i3 : Int32) (w_gfa_6 : Nat → Int64) (H : Heap) (locs : List Loc) (ls : Array Slot), 20 - i3.toInt < (n : Int) → (0 ≤ i3.toInt ∧ i3.toInt ≤ 20) → va_P (dC, dI) vwCl [(fa, .inl (cA 1, 20, .inr (.inl w_gfa_6)))] H → va_D A [(fa, .inl (cA 1, 20, .inr (.inl w_gfa_6)))] → va_S A s.heap H locs → lv_has ls 5 [(4, .int 20), (3, .int i3), (0, .ref fa), (1, .long v)] → W p l e ({ frames := 0, cells := 0, slots := 0, locals := 0 }) s m ([.ref fa, .long v] : List Value).toArray below meth c H locs 0 0 QQ (F0 m 6 ls []) := by
    intro n
    induction n with
    | zero => intro i3 w_gfa_6 H locs ls hme hv0_6; exfalso; omega
    | succ n ih_6 =>
      intro i3 w_gfa_6 H locs ls hme_6 hv0_6 hP hD hS hl
      refine lv_iload_n hx hb dJ7_fill_d0a16_6 rfl (lv_at hl 1 rfl) ?_
      refine lv_iload hx hb dJ7_fill_d0a16_7 (lv_at hl 0 rfl) ?_
      refine lv_icmp_ge (tgt := 22) hx hb dJ7_fill_d0a16_9 (by decide) (fun c_2 => ?_) (fun c_2 => ?_)
      · have dc_2 : 20 ≤ i3.toInt := jI_le c_2 (by decide) rfl
        have hP9 := hP.sub (ws' := [(fa, .inl (cA 1, 20, .inr (.inl w_gfa_6)))]) [0] rfl
        have hD9 := hD.sub (ws' := [(fa, .inl (cA 1, 20, .inr (.inl w_gfa_6)))]) [0] (by decide) rfl
        subst hQe
        exact W.vret hx hb hr (fun t ht hW => ⟨⟨w_gfa_6, rfl, trivial, by rw [ht]; exact hP9, hD9⟩, hS.F ht⟩) hS.2.2 dJ7_fill_d0a16_22
      · have dc_2 : i3.toInt < 20 := jI_nle c_2 (by decide) rfl
        refine lv_aload_n hx hb dJ7_fill_d0a16_12 rfl (lv_at hl 2 rfl) ?_
        refine lv_iload_n hx hb dJ7_fill_d0a16_13 rfl (lv_at hl 1 rfl) ?_
        refine lv_lload_n hx hb dJ7_fill_d0a16_14 rfl (lv_at hl 3 rfl) ?_
        have h_3 : vp_in i3 20 := (vp_in_iff.mpr ⟨by omega, by omega⟩)
        refine va_last hx hb hK hP hD hS 0 1 rfl rfl h_3 dJ7_fill_d0a16_15 (fun H locs hP hD hS => ?_)
        replace hP : va_P (dC, dI) vwCl [(fa, .inl (cA 1, 20, .inr (.inl (vp_updL w_gfa_6 i3.toNatClampNeg v))))] H := hP
        replace hD : va_D A [(fa, .inl (cA 1, 20, .inr (.inl (vp_updL w_gfa_6 i3.toNatClampNeg v))))] := hD
        obtain ⟨g_4, eg_4⟩ : ∃ g : Nat → Int64, g = vp_updL w_gfa_6 i3.toNatClampNeg v := ⟨_, rfl⟩
        rw [← eg_4] at hP hD
        obtain ⟨x_5, ex_5⟩ : ∃ y : Int32, y = i3 + 1 := ⟨_, rfl⟩
        have dx_5 : x_5.toInt = i3.toInt + 1 := by rw [ex_5]; exact jI_add rfl (by decide) (by omega) (by omega)
        refine lv_iinc (v := x_5) (lv' := [(3, .int x_5), (4, .int 20), (0, .ref fa), (1, .long v)]) hx hb dJ7_fill_d0a16_16 hl (k := 1) rfl (by rw [ex_5]; rfl) (by decide) rfl (fun ls hl => ?_)
        refine lv_goto (tgt := 6) hx hb dJ7_fill_d0a16_19 (by decide) ?_
        exact ih_6 x_5 g_4 _ _ ls (by omega) (by omega) (hP.sub [0] rfl) (hD.sub [0] (by decide) rfl) hS (lv_sub hl [1, 0, 2, 3] rfl)
  have hk_6 : (0 : Int32).toInt = 0 := by decide
  exact loop6_1 (Int.toNat (20 - (0 : Int32).toInt) + 1) 0 gfa _ _ ls (by omega) (by omega) hP hD hS (lv_sub hl [0, 1, 2, 3] rfl)
