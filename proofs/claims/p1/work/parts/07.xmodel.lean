theorem dX8_needsOf_0 : decode cX8_needsOf 0 = .ok (.iconst 0, 1) := by decide +kernel
theorem dX8_needsOf_1 : decode cX8_needsOf 1 = .ok (.istore_n 2, 1) := by decide +kernel
theorem dX8_needsOf_2 : decode cX8_needsOf 2 = .ok (.iconst 0, 1) := by decide +kernel
theorem dX8_needsOf_3 : decode cX8_needsOf 3 = .ok (.istore_n 3, 1) := by decide +kernel
theorem dX8_needsOf_4 : decode cX8_needsOf 4 = .ok (.iload_n 3, 1) := by decide +kernel
theorem dX8_needsOf_5 : decode cX8_needsOf 5 = .ok (.aload_n 0, 1) := by decide +kernel
theorem dX8_needsOf_6 : decode cX8_needsOf 6 = .ok (.getfield 148, 3) := by decide +kernel
theorem dX8_needsOf_9 : decode cX8_needsOf 9 = .ok (.if_icmp .ge 37, 3) := by decide +kernel
theorem dX8_needsOf_46 : decode cX8_needsOf 46 = .ok (.iload_n 2, 1) := by decide +kernel
theorem dX8_needsOf_47 : decode cX8_needsOf 47 = .ok (.ireturn, 1) := by decide +kernel
set_option maxHeartbeats 4000000 in
set_option maxRecDepth 100000 in
theorem c_X8_needsOf (l : Launch) (dC : Nat → ClassId) (dI : Nat → Nat → Nat) (sz : Nat) (h0 : Nat) (hRows : Nat) (hMer : Nat) (hEra : Nat) (hTape : Nat) (hRea : Nat) (hTra : Nat) (hWor : Nat) (hPla : Nat) (hMod : Nat) (hHe1 : Nat) (hHe2 : Nat) (a : Int32)  : Met l yX8_needsOf wsX8_needsOf ({ frames := 0, cells := 0, slots := 0, locals := 0 }) (va_Pc [.ref h0, .int a] (fun U => U.heap.size = sz ∧ va_P (dC, dI) vwCl [(h0, .inr (8, [.ref hRows, .ref hMer, .ref hEra, .ref hTape, .ref hRea, .ref hTra, .ref hWor, .ref hPla, .ref hMod, .ref hHe1, .ref hHe2, .int 0, .int 0, .int 0, .int 0, .int (-1), .int 0]))] U.heap ∧ va_K (dC, dI) vwCl [] U ∧ va_D (fun _ => True) [(h0, .inr (8, [.ref hRows, .ref hMer, .ref hEra, .ref hTape, .ref hRea, .ref hTra, .ref hWor, .ref hPla, .ref hMod, .ref hHe1, .ref hHe2, .int 0, .int 0, .int 0, .int 0, .int (-1), .int 0]))] ∧ nw_ok U)) (va_Qi (fun (r : Int32) (_ : Unit) => r = 0) (fun (_ : Unit) (t : State) => va_P (dC, dI) vwCl [(h0, .inr (8, [.ref hRows, .ref hMer, .ref hEra, .ref hTape, .ref hRea, .ref hTra, .ref hWor, .ref hPla, .ref hMod, .ref hHe1, .ref hHe2, .int 0, .int 0, .int 0, .int 0, .int (-1), .int 0]))] t.heap ∧ va_K (dC, dI) vwCl [] t ∧ va_D (va_A [(h0, .inr (8, [.ref hRows, .ref hMer, .ref hEra, .ref hTape, .ref hRea, .ref hTra, .ref hWor, .ref hPla, .ref hMod, .ref hHe1, .ref hHe2, .int 0, .int 0, .int 0, .int 0, .int (-1), .int 0]))] sz) [(h0, .inr (8, [.ref hRows, .ref hMer, .ref hEra, .ref hTape, .ref hRea, .ref hTra, .ref hWor, .ref hPla, .ref hMod, .ref hHe1, .ref hHe2, .int 0, .int 0, .int 0, .int 0, .int (-1), .int 0]))]) (va_A [(h0, .inr (8, [.ref hRows, .ref hMer, .ref hEra, .ref hTape, .ref hRea, .ref hTra, .ref hWor, .ref hPla, .ref hMod, .ref hHe1, .ref hHe2, .int 0, .int 0, .int 0, .int 0, .int (-1), .int 0]))] sz)) 0 0 (va_A [(h0, .inr (8, [.ref hRows, .ref hMer, .ref hEra, .ref hTape, .ref hRea, .ref hTra, .ref hWor, .ref hPla, .ref hMod, .ref hHe1, .ref hHe2, .int 0, .int 0, .int 0, .int 0, .int (-1), .int 0]))] sz) := by
  refine Met.ofW (cc := cX8_needsOf) (maxL := 5) (ret := (some .int)) (by decide) rfl ?_
  intro p e s m args below meth c s₁ B hml hv
  obtain ⟨rfl, hsz, hP, hK, hD0, hN⟩ := hv
  have hx := B.exec
  have hb := B.bytes
  have hr := B.returns
  have hts := atoms_spec (ws := wsX8_needsOf) B.pre
  have hown : s.vm.findClass RX8 = some m.cls := findClass_of_methodNamed B.named
  have hlocks := B.notSynchronized
  subst hsz
  have hD := hD0.self (sz := s.heap.size)
  generalize hAe : va_A [(h0, .inr (8, [.ref hRows, .ref hMer, .ref hEra, .ref hTape, .ref hRea, .ref hTra, .ref hWor, .ref hPla, .ref hMod, .ref hHe1, .ref hHe2, .int 0, .int 0, .int 0, .int 0, .int (-1), .int 0]))] s.heap.size = A at hD ⊢
  have hA : ∀ q : Nat, s.heap.size ≤ q → A q := fun q h => by rw [← hAe]; exact Or.inr h
  have hS : va_S A s.heap s.heap [] := va_S.rf
  have hP : va_P (dC, dI) vwCl [(h0, .inr (8, [.ref hRows, .ref hMer, .ref hEra, .ref hTape, .ref hRea, .ref hTra, .ref hWor, .ref hPla, .ref hMod, .ref hHe1, .ref hHe2, .int 0, .int 0, .int 0, .int 0, .int (-1), .int 0]))] s.heap := hP
  have hIX8 : ∀ w ∈ u_ws RX8 TX8 17, w ∈ wsX8_needsOf := by decide +kernel
  have hl := lv_entry ([.ref h0, .int a]) (n := 5) (Nat.le_of_ble_eq_true rfl)
  rw [lg_entry_eq]
  generalize (lg_sl ([.ref h0, .int a]) ++ List.replicate (5 - (lg_sl ([.ref h0, .int a])).length) Slot.unset).toArray = ls at hl ⊢
  have hl : lv_has ls 5 [(3, .int 0), (2, .int 0), (0, .ref h0), (1, .int a)] := hl
  refine lv_iconst (v := 0) hx hb dX8_needsOf_0 (by decide) ?_
  refine lv_istore_n (lv' := [(2, .int 0), (0, .ref h0), (1, .int a)]) hx hb dX8_needsOf_1 rfl hl (by decide) rfl (fun ls hl => ?_)
  refine lv_iconst (v := 0) hx hb dX8_needsOf_2 (by decide) ?_
  refine lv_istore_n (lv' := [(3, .int 0), (2, .int 0), (0, .ref h0), (1, .int a)]) hx hb dX8_needsOf_3 rfl hl (by decide) rfl (fun ls hl => ?_)
  refine lv_iload_n hx hb dX8_needsOf_4 rfl (lv_at hl 0 rfl) ?_
  refine lv_aload_n hx hb dX8_needsOf_5 rfl (lv_at hl 2 rfl) ?_
  refine va_get (D := (dC, dI)) (ci := 8) (v := .int 0) (C := RX8) (T := TX8) (N := 17) hx hb hts hIX8 hown hK hP 0 rfl rfl 13 (by decide) (hts (.fieldLink RX8 148 "TraitHouse" "traitsThere" "I") (by decide +kernel)) (fun _ h9 => h9) rfl dX8_needsOf_6 ?_
  refine lv_icmp_ge (tgt := 46) hx hb dX8_needsOf_9 (by decide) (fun c_1 => ?_) (fun c_1 => absurd (by decide) c_1)
  refine lv_iload_n hx hb dX8_needsOf_46 rfl (lv_at hl 1 rfl) ?_
  have hP9 := hP.sub (ws' := [(h0, .inr (8, [.ref hRows, .ref hMer, .ref hEra, .ref hTape, .ref hRea, .ref hTra, .ref hWor, .ref hPla, .ref hMod, .ref hHe1, .ref hHe2, .int 0, .int 0, .int 0, .int 0, .int (-1), .int 0]))]) [0] rfl
  have hD9 := hD.sub (ws' := [(h0, .inr (8, [.ref hRows, .ref hMer, .ref hEra, .ref hTape, .ref hRea, .ref hTra, .ref hWor, .ref hPla, .ref hMod, .ref hHe1, .ref hHe2, .int 0, .int 0, .int 0, .int 0, .int (-1), .int 0]))]) [0] (by decide) rfl
  have hK9 := hK.sub (tys' := []) [] rfl
  exact W.iret (v := 0) hx hb hr (fun t ht hW => ⟨⟨0, (), rfl, rfl, by rw [ht]; exact hP9, va_K.moved hW.alike hK9, hD9⟩, hS.F ht⟩) hS.2.2 dX8_needsOf_47
