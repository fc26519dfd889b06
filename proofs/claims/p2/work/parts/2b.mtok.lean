theorem dX9_isIn_0 : decode cX9_isIn 0 = .ok (.iload_n 1, 1) := by decide +kernel
theorem dX9_isIn_1 : decode cX9_isIn 1 = .ok (.aload_n 0, 1) := by decide +kernel
theorem dX9_isIn_2 : decode cX9_isIn 2 = .ok (.getfield 167, 3) := by decide +kernel
theorem dX9_isIn_5 : decode cX9_isIn 5 = .ok (.if_icmp .ge 27, 3) := by decide +kernel
theorem dX9_isIn_32 : decode cX9_isIn 32 = .ok (.iconst 0, 1) := by decide +kernel
theorem dX9_isIn_33 : decode cX9_isIn 33 = .ok (.ireturn, 1) := by decide +kernel
theorem dX9_isIn_8 : decode cX9_isIn 8 = .ok (.aload_n 0, 1) := by decide +kernel
theorem dX9_isIn_9 : decode cX9_isIn 9 = .ok (.getfield 38, 3) := by decide +kernel
theorem dX9_isIn_12 : decode cX9_isIn 12 = .ok (.iload_n 1, 1) := by decide +kernel
theorem dX9_isIn_13 : decode cX9_isIn 13 = .ok (.baload, 1) := by decide +kernel
theorem dX9_isIn_14 : decode cX9_isIn 14 = .ok (.iload_n 2, 1) := by decide +kernel
theorem dX9_isIn_15 : decode cX9_isIn 15 = .ok (.if_icmp .lt 17, 3) := by decide +kernel
theorem dX9_isIn_18 : decode cX9_isIn 18 = .ok (.aload_n 0, 1) := by decide +kernel
theorem dX9_isIn_19 : decode cX9_isIn 19 = .ok (.getfield 38, 3) := by decide +kernel
theorem dX9_isIn_22 : decode cX9_isIn 22 = .ok (.iload_n 1, 1) := by decide +kernel
theorem dX9_isIn_23 : decode cX9_isIn 23 = .ok (.baload, 1) := by decide +kernel
theorem dX9_isIn_24 : decode cX9_isIn 24 = .ok (.iload_n 3, 1) := by decide +kernel
theorem dX9_isIn_25 : decode cX9_isIn 25 = .ok (.if_icmp .gt 7, 3) := by decide +kernel
theorem dX9_isIn_28 : decode cX9_isIn 28 = .ok (.iconst 1, 1) := by decide +kernel
theorem dX9_isIn_29 : decode cX9_isIn 29 = .ok (.goto 4, 3) := by decide +kernel
/-! the reference's reader: a token, the program that is laid -/
def dig (x : Int32) : Prop := 48 ≤ x.toInt ∧ x.toInt ≤ 57
def tokOK (f : Nat → Int32) (from_ to size : Int32) : Prop := from_.toInt < size.toInt → dig (f from_.toNatClampNeg) → ∀ k : Nat, from_.toInt ≤ k → (k : Int) < to.toInt → dig (f k)
def prg (f fA g gA : Nat → Int32) (b l n : Nat) (ok : Prop) : Prop := l ≤ n ∧ (∀ k, k < b + l → g k = f k ∧ gA k = fA k) ∧ wfp g gA b n ∧ (ok → dep g b n = dep f b l + 1)
theorem dep_cong {f g : Nat → Int32} {b : Nat} : ∀ {n : Nat}, (∀ k, k < b + n → g k = f k) → dep g b n = dep f b n := by
  intro n
  induction n with
  | zero => intro _; rfl
  | succ n ih =>
    intro h
    show dep g b n + dlt (g (b + n)) = dep f b n + dlt (f (b + n))
    rw [ih (fun k hk => h k (by omega)), h (b + n) (by omega)]
theorem wfp_ext {f fA g gA : Nat → Int32} {b n : Nat} (h : wfp f fA b n) (hk : ∀ k, k < b + n → g k = f k ∧ gA k = fA k) (hs : (1 ≤ (g (b + n)).toInt ∧ (g (b + n)).toInt ≤ 4 → 2 ≤ dep f b n) ∧ ((g (b + n)).toInt = 5 → 1 ≤ dep f b n) ∧ ((g (b + n)).toInt = 6 → 0 ≤ (gA (b + n)).toInt ∧ (gA (b + n)).toInt ≤ 19)) : wfp g gA b (n + 1) := by
  intro j hj
  rcases Nat.lt_or_ge j n with q | q
  · have e := hk (b + j) (by omega)
    rw [e.1, e.2, dep_cong (n := j) (fun k hk' => (hk k (by omega)).1)]
    exact h j q
  · have e : j = n := by omega
    subst e
    rw [dep_cong (n := j) (fun k hk' => (hk k (by omega)).1)]
    exact hs
theorem prg_rf {f fA : Nat → Int32} {b l : Nat} {ok : Prop} (h : wfp f fA b l) (hn : ¬ ok) : prg f fA f fA b l l ok := ⟨Nat.le_refl _, fun _ _ => ⟨rfl, rfl⟩, h, fun q => absurd q hn⟩
theorem prg_bad {f fA g gA h hA : Nat → Int32} {b l n n2 : Nat} {ok ok1 ok2 : Prop} (h1 : prg f fA g gA b l n ok1) (h2 : prg g gA h hA b n n2 ok2) (hn : ¬ ok) : prg f fA h hA b l n2 ok := by
  refine ⟨Nat.le_trans h1.1 h2.1, fun k hk => ?_, h2.2.2.1, fun q => absurd q hn⟩
  have e1 := h1.2.1 k hk
  have e2 := h2.2.1 k (by have := h1.1; omega)
  exact ⟨e2.1.trans e1.1, e2.2.trans e1.2⟩
theorem prg_same {f fA g gA : Nat → Int32} {b l n : Nat} {ok ok1 : Prop} (h1 : prg f fA g gA b l n ok1) (h : ok → ok1) : prg f fA g gA b l n ok := ⟨h1.1, h1.2.1, h1.2.2.1, fun q => h1.2.2.2 (h q)⟩
theorem upd_lt {f : Nat → Int32} {k b : Nat} {x : Int32} (h : k < b) : upd f b x k = f k := pk_un (Nat.ne_of_lt h)
/-- a value is laid -/
theorem prg_push {f fA g gA : Nat → Int32} {b l n : Nat} {c x : Int32} {ok : Prop} (h : wfp f fA b l) (hc : ¬ (1 ≤ c.toInt ∧ c.toInt ≤ 5)) (h6 : c.toInt = 6 → 0 ≤ x.toInt ∧ x.toInt ≤ 19) (eg : g = upd f (b + l) c) (eA : gA = upd fA (b + l) x) (hn : n = l + 1) : prg f fA g gA b l n ok := by
  subst eg; subst eA; subst hn
  have hk : ∀ k, k < b + l → upd f (b + l) c k = f k ∧ upd fA (b + l) x k = fA k := fun k hk => ⟨upd_lt hk, upd_lt hk⟩
  refine ⟨by omega, hk, wfp_ext h hk ?_, fun _ => ?_⟩
  · rw [pk_us, pk_us]
    exact ⟨fun q => absurd ⟨q.1, by omega⟩ hc, fun q => absurd ⟨by omega, by omega⟩ hc, h6⟩
  · show dep _ b l + dlt (upd f (b + l) c (b + l)) = _
    rw [pk_us, dep_cong (n := l) (fun k hk' => (hk k hk').1), dlt, if_neg (by omega), if_neg (by omega)]
/-- 'else' is laid -/
theorem prg_else {f fA g gA h hA : Nat → Int32} {b l n n2 : Nat} {c x : Int32} {ok ok1 : Prop} (hw : wfp f fA b l) (h1 : prg f fA g gA b l n ok1) (ho : ok1) (hc : c.toInt = 5) (eg : h = upd g (b + n) c) (eA : hA = upd gA (b + n) x) (hn : n2 = n + 1) : prg f fA h hA b l n2 ok := by
  subst eg; subst eA; subst hn
  have hd := h1.2.2.2 ho
  have h0 := dep_nn hw l (Nat.le_refl _)
  have hk : ∀ k, k < b + n → upd g (b + n) c k = g k ∧ upd gA (b + n) x k = gA k := fun k hk => ⟨upd_lt hk, upd_lt hk⟩
  refine ⟨by have := h1.1; omega, fun k hk' => ?_, wfp_ext h1.2.2.1 hk ?_, fun _ => ?_⟩
  · have e := hk k (by have := h1.1; omega)
    have e1 := h1.2.1 k hk'
    exact ⟨e.1.trans e1.1, e.2.trans e1.2⟩
  · rw [pk_us, pk_us]
    exact ⟨fun q => by omega, fun q => by omega, fun q => by omega⟩
  · show dep _ b n + dlt (upd g (b + n) c (b + n)) = _
    rw [pk_us, dep_cong (n := n) (fun k hk' => (hk k hk').1), dlt, if_neg (by omega), if_pos hc, hd]
    omega
/-- a joining step is laid behind two values -/
theorem prg_op {f fA g gA h hA h' hA' : Nat → Int32} {b l n n2 n3 : Nat} {c x : Int32} {ok ok1 ok2 : Prop} (hw : wfp f fA b l) (h1 : prg f fA g gA b l n ok1) (ho1 : ok1) (h2 : prg g gA h hA b n n2 ok2) (ho2 : ok2) (hc : 1 ≤ c.toInt ∧ c.toInt ≤ 4) (eg : h' = upd h (b + n2) c) (eA : hA' = upd hA (b + n2) x) (hn : n3 = n2 + 1) : prg f fA h' hA' b l n3 ok := by
  subst eg; subst eA; subst hn
  have hd := h1.2.2.2 ho1
  have hd2 := h2.2.2.2 ho2
  have h0 := dep_nn hw l (Nat.le_refl _)
  have hk : ∀ k, k < b + n2 → upd h (b + n2) c k = h k ∧ upd hA (b + n2) x k = hA k := fun k hk => ⟨upd_lt hk, upd_lt hk⟩
  have l1 := h1.1
  have l2 := h2.1
  refine ⟨by omega, fun k hk' => ?_, wfp_ext h2.2.2.1 hk ?_, fun _ => ?_⟩
  · have e := hk k (by omega)
    have e1 := h1.2.1 k hk'
    have e2 := h2.2.1 k (by omega)
    exact ⟨e.1.trans (e2.1.trans e1.1), e.2.trans (e2.2.trans e1.2)⟩
  · rw [pk_us, pk_us]
    exact ⟨fun q => by omega, fun q => by omega, fun q => by omega⟩
  · show dep _ b n2 + dlt (upd h (b + n2) c (b + n2)) = _
    rw [pk_us, dep_cong (n := n2) (fun k hk' => (hk k hk').1), dlt, if_pos hc, hd2, hd]
    omega
/-- the programs ahead stay as they were -/
theorem prog_keep {f fA g gA f0 : Nat → Int32} {n : Int32} {b l m : Nat} {ok : Prop} (h : progOK f fA f0 n) (h0 : inB 0 200 20 f0) (hn : n.toInt ≤ 20) (hb : b = 250 * n.toInt.toNat) (hp : prg f fA g gA b l m ok) : progOK g gA f0 n := by
  intro i hi j hj
  have hs := h0 i (by omega)
  have e : ∀ k, k < 250 * i + j + 1 → g k = f k ∧ gA k = fA k := fun k hk => hp.2.1 k (by omega)
  rw [(e _ (by omega)).1, (e _ (by omega)).2, dep_cong (n := j) (fun k hk => (e k (by omega)).1)]
  exact h i hi j hj
theorem prog_new {g gA f0 : Nat → Int32} {n n' len : Int32} (h : progOK g gA f0 n) (hn : 0 ≤ n.toInt) (hn' : n'.toInt = n.toInt + 1) (hw : wfp g gA (250 * n.toInt.toNat) len.toInt.toNat) {f1 : Nat → Int32} (e1 : f1 = upd f0 n.toNatClampNeg len) : progOK g gA f1 n' := by
  intro i hi
  have e : n.toNatClampNeg = n.toInt.toNat := rfl
  rw [e1, e]
  by_cases q : i = n.toInt.toNat
  · subst q; rw [pk_us]; exact hw
  · rw [pk_un q]; exact h i (by omega)
theorem tok_rf {f : Nat → Int32} {from_ to size : Int32} (h : to.toInt ≤ from_.toInt) : tokOK f from_ to size := fun _ _ k h1 h2 => by omega
theorem tok_no {f : Nat → Int32} {from_ to size : Int32} (h : from_.toInt < size.toInt → ¬ dig (f from_.toNatClampNeg)) : tokOK f from_ to size := fun q1 q2 => absurd q2 (h q1)
theorem tok_all {f : Nat → Int32} {from_ to size : Int32} (h : ∀ k : Nat, from_.toInt ≤ k → (k : Int) < to.toInt → dig (f k)) : tokOK f from_ to size := fun _ _ => h

theorem puts_ix {at_ t l : Int32} (h : at_.toInt = 250 * t.toInt + l.toInt) (h0 : 0 ≤ t.toInt) (h1 : 0 ≤ l.toInt) : at_.toNatClampNeg = 250 * t.toInt.toNat + l.toInt.toNat := by
  have : at_.toNatClampNeg = at_.toInt.toNat := rfl
  omega
theorem tok_ext {f : Nat → Int32} {fr to to2 : Int32} {x : Int32} (h : ∀ k : Nat, fr.toInt ≤ k → (k : Int) < to.toInt → dig (f k)) (hd : dig (f to.toNatClampNeg)) (h0 : 0 ≤ to.toInt) (ht : to2.toInt = to.toInt + 1) : ∀ k : Nat, fr.toInt ≤ k → (k : Int) < to2.toInt → dig (f k) := by
  intro k h1 h2
  by_cases e : k = to.toNatClampNeg
  · rw [e]; exact hd
  · have : to.toNatClampNeg = to.toInt.toNat := rfl
    exact h k h1 (by omega)
theorem tok_one {f : Nat → Int32} {fr to size : Int32} (h0 : 0 ≤ fr.toInt) (ht : to.toInt = fr.toInt + 1) : tokOK f fr to size := by
  intro _ hd k h1 h2
  have : fr.toNatClampNeg = fr.toInt.toNat := rfl
  have e : k = fr.toNatClampNeg := by omega
  rw [e]; exact hd

set_option maxHeartbeats 8000000 in
set_option maxRecDepth 100000 in
theorem k_X9_isIn (l : Launch) (dC : Nat → ClassId) (dI : Nat → Nat → Nat) (cA : Nat → ClassId) (sz : Nat) (am : Nat → Nat) (v_status : Int32) (v_now : Int32) (v_told : Int32) (v_merges : Int32) (v_taped : Int32) (v_size : Int32) (v_from : Int32) (v_to : Int32) (v_fault : Int32) (v_readFault : Int32) (v_traits : Int32) (v_length : Int32) (v_open : Int32) (v_leaks : Int32) (v_places : Int32) (v_models : Int32) (f_tape : Nat → Int32) (kk : Int32) (lo : Int32) (hi : Int32) (i_v_now : 0 ≤ v_now.toInt ∧ v_now.toInt ≤ 100000) (i_v_told : 0 ≤ v_told.toInt ∧ v_told.toInt ≤ 400) (i_v_taped : 0 ≤ v_taped.toInt ∧ v_taped.toInt ≤ 200) (i_v_size : 0 ≤ v_size.toInt ∧ v_size.toInt ≤ 200) (i_v_from : 0 ≤ v_from.toInt ∧ v_from.toInt ≤ 200) (i_v_to : 0 ≤ v_to.toInt ∧ v_to.toInt ≤ 200) (i_v_traits : 0 ≤ v_traits.toInt ∧ v_traits.toInt ≤ 20) (i_v_length : 0 ≤ v_length.toInt ∧ v_length.toInt ≤ 200) (i_v_open : 0 ≤ v_open.toInt ∧ v_open.toInt ≤ 8) (i_v_places : 0 ≤ v_places.toInt ∧ v_places.toInt ≤ 2000) (i_v_models : 0 ≤ v_models.toInt ∧ v_models.toInt ≤ 10) (hkk : 0 ≤ kk.toInt ∧ kk.toInt ≤ 200) : Met l yX9_isIn wsX9_isIn ({ frames := 0, cells := 0, slots := 0, locals := 0 }) (va_Pc [.ref (am 0), .int kk, .int lo, .int hi] (fun U => U.heap.size = sz ∧ va_P (dC, dI) vwCl [((am 0), .inr (9, F9 am v_status v_now v_told v_merges v_taped v_size v_from v_to v_fault v_readFault v_traits v_length v_open v_leaks v_places v_models)), ((am 10), .inl (cA 3, 200, .inl f_tape))] U.heap ∧ va_K (dC, dI) vwCl (tyL cA) U ∧ va_D (fun _ => True) [((am 0), .inr (9, F9 am v_status v_now v_told v_merges v_taped v_size v_from v_to v_fault v_readFault v_traits v_length v_open v_leaks v_places v_models)), ((am 10), .inl (cA 3, 200, .inl f_tape))] ∧ nw_ok U)) (va_Qi (fun (r : Int32) (_ : Unit) => ((r.toInt = 0 ∨ r.toInt = 1) ∧ (¬ r.toInt = 0 → kk.toInt < v_size.toInt ∧ lo.toInt ≤ (f_tape kk.toNatClampNeg).toInt ∧ (f_tape kk.toNatClampNeg).toInt ≤ hi.toInt) ∧ (r.toInt = 0 → kk.toInt < v_size.toInt → ¬ (lo.toInt ≤ (f_tape kk.toNatClampNeg).toInt ∧ (f_tape kk.toNatClampNeg).toInt ≤ hi.toInt)))) (fun (_ : Unit) (t : State) => va_P (dC, dI) vwCl [((am 0), .inr (9, F9 am v_status v_now v_told v_merges v_taped v_size v_from v_to v_fault v_readFault v_traits v_length v_open v_leaks v_places v_models)), ((am 10), .inl (cA 3, 200, .inl f_tape))] t.heap ∧ va_D (va_A [((am 0), .inr (9, F9 am v_status v_now v_told v_merges v_taped v_size v_from v_to v_fault v_readFault v_traits v_length v_open v_leaks v_places v_models)), ((am 10), .inl (cA 3, 200, .inl f_tape))] sz) [((am 0), .inr (9, F9 am v_status v_now v_told v_merges v_taped v_size v_from v_to v_fault v_readFault v_traits v_length v_open v_leaks v_places v_models)), ((am 10), .inl (cA 3, 200, .inl f_tape))]) (va_A [((am 0), .inr (9, F9 am v_status v_now v_told v_merges v_taped v_size v_from v_to v_fault v_readFault v_traits v_length v_open v_leaks v_places v_models)), ((am 10), .inl (cA 3, 200, .inl f_tape))] sz)) 0 0 (va_A [((am 0), .inr (9, F9 am v_status v_now v_told v_merges v_taped v_size v_from v_to v_fault v_readFault v_traits v_length v_open v_leaks v_places v_models)), ((am 10), .inl (cA 3, 200, .inl f_tape))] sz) := by
  refine Met.ofW (cc := cX9_isIn) (maxL := 4) (ret := (some .boolean)) (by decide) rfl ?_
  intro p e s m args below meth c s₁ B hml hv
  obtain ⟨rfl, hsz, hP, hK, hD0, hN⟩ := hv
  have hx := B.exec
  have hb := B.bytes
  have hr := B.returns
  have hts := atoms_spec (ws := wsX9_isIn) B.pre
  have hown : s.vm.findClass RX9 = some m.cls := findClass_of_methodNamed B.named
  have hlocks := B.notSynchronized
  subst hsz
  have hD := hD0.self (sz := s.heap.size)
  generalize hAe : va_A [((am 0), .inr (9, F9 am v_status v_now v_told v_merges v_taped v_size v_from v_to v_fault v_readFault v_traits v_length v_open v_leaks v_places v_models)), ((am 10), .inl (cA 3, 200, .inl f_tape))] s.heap.size = A at hD ⊢
  have hA : ∀ q : Nat, s.heap.size ≤ q → A q := fun q h => by rw [← hAe]; exact Or.inr h
  have hS : va_S A s.heap s.heap [] := va_S.rf
  have hIX9 : ∀ w ∈ u_ws RX9 TX9 51, w ∈ wsX9_isIn := by decide +kernel
  have hl := lv_entry ([.ref (am 0), .int kk, .int lo, .int hi]) (n := 4) (Nat.le_of_ble_eq_true rfl)
  rw [lg_entry_eq]
  generalize (lg_sl ([.ref (am 0), .int kk, .int lo, .int hi]) ++ List.replicate (4 - (lg_sl ([.ref (am 0), .int kk, .int lo, .int hi])).length) Slot.unset).toArray = ls at hl ⊢
  have hl : lv_has ls 4 [(0, .ref (am 0)), (1, .int kk), (2, .int lo), (3, .int hi)] := hl
  generalize hQe : MQ below _ _ _ _ _ _ = QQ
  refine lv_iload_n hx hb dX9_isIn_0 rfl (lv_at hl 1 rfl) ?_
  refine lv_aload_n hx hb dX9_isIn_1 rfl (lv_at hl 0 rfl) ?_
  refine va_get (D := (dC, dI)) (ci := 9) (v := .int v_size) (C := RX9) (T := TX9) (N := 51) hx hb hts hIX9 hown hK hP 0 rfl rfl 15 (by decide) (hts (.fieldLink RX9 167 "TraitHouseModel" "size" "I") (by decide +kernel)) (fun _ h9 => h9) rfl dX9_isIn_2 ?_
  refine lv_icmp_ge (tgt := 32) hx hb dX9_isIn_5 (by decide) (fun c_1 => ?_) (fun c_1 => ?_)
  · have dc_1 : v_size.toInt ≤ kk.toInt := jI_le c_1 rfl rfl
    refine lv_iconst (v := 0) hx hb dX9_isIn_32 (by decide) ?_
    have hP9 := hP.sub (ws' := [((am 0), .inr (9, F9 am v_status v_now v_told v_merges v_taped v_size v_from v_to v_fault v_readFault v_traits v_length v_open v_leaks v_places v_models)), ((am 10), .inl (cA 3, 200, .inl f_tape))]) [0, 1] rfl
    have hD9 := hD.sub (ws' := [((am 0), .inr (9, F9 am v_status v_now v_told v_merges v_taped v_size v_from v_to v_fault v_readFault v_traits v_length v_open v_leaks v_places v_models)), ((am 10), .inl (cA 3, 200, .inl f_tape))]) [0, 1] (by decide) rfl
    subst hQe
    have hans : (0 : Int32).toInt = 0 := (by decide)
    exact W.zret (v := 0) hx hb hr (by decide) (fun t ht hW => ⟨⟨0, (), rfl, by (refine ⟨by omega, fun h => ?_, fun h1 h2 => ?_⟩ <;> omega), by rw [ht]; exact hP9, hD9⟩, hS.F ht⟩) hS.2.2 dX9_isIn_33
  · have dc_1 : kk.toInt < v_size.toInt := jI_nle c_1 rfl rfl
    refine lv_aload_n hx hb dX9_isIn_8 rfl (lv_at hl 0 rfl) ?_
    refine va_get (D := (dC, dI)) (ci := 9) (v := .ref (am 10)) (C := RX9) (T := TX9) (N := 51) hx hb hts hIX9 hown hK hP 0 rfl rfl 13 (by decide) (hts (.fieldLink RX9 38 "TraitHouseModel" "tape" "[B") (by decide +kernel)) (fun _ h9 => h9) rfl dX9_isIn_9 ?_
    refine lv_iload_n hx hb dX9_isIn_12 rfl (lv_at hl 1 rfl) ?_
    have h_2 : vp_in kk 200 := (vp_in_iff.mpr ⟨by omega, by omega⟩)
    refine va_bald hx hb hK hP 1 3 rfl rfl h_2 dX9_isIn_13 ?_
    refine lv_topi (fun x_3 ex_3 => ?_)
    refine lv_iload_n hx hb dX9_isIn_14 rfl (lv_at hl 2 rfl) ?_
    refine lv_icmp_lt (tgt := 32) hx hb dX9_isIn_15 (by decide) (fun c_4 => ?_) (fun c_4 => ?_)
    · have dc_4 : x_3.toInt < lo.toInt := jI_lt c_4 rfl rfl
      refine lv_iconst (v := 0) hx hb dX9_isIn_32 (by decide) ?_
      have hP9 := hP.sub (ws' := [((am 0), .inr (9, F9 am v_status v_now v_told v_merges v_taped v_size v_from v_to v_fault v_readFault v_traits v_length v_open v_leaks v_places v_models)), ((am 10), .inl (cA 3, 200, .inl f_tape))]) [0, 1] rfl
      have hD9 := hD.sub (ws' := [((am 0), .inr (9, F9 am v_status v_now v_told v_merges v_taped v_size v_from v_to v_fault v_readFault v_traits v_length v_open v_leaks v_places v_models)), ((am 10), .inl (cA 3, 200, .inl f_tape))]) [0, 1] (by decide) rfl
      subst hQe
      have hans : (0 : Int32).toInt = 0 := (by decide)
      exact W.zret (v := 0) hx hb hr (by decide) (fun t ht hW => ⟨⟨0, (), rfl, by (have zx_3 := congrArg Int32.toInt ex_3; refine ⟨by omega, fun h => ?_, fun h1 h2 => ?_⟩ <;> omega), by rw [ht]; exact hP9, hD9⟩, hS.F ht⟩) hS.2.2 dX9_isIn_33
    · have dc_4 : lo.toInt ≤ x_3.toInt := jI_nlt c_4 rfl rfl
      refine lv_aload_n hx hb dX9_isIn_18 rfl (lv_at hl 0 rfl) ?_
      refine va_get (D := (dC, dI)) (ci := 9) (v := .ref (am 10)) (C := RX9) (T := TX9) (N := 51) hx hb hts hIX9 hown hK hP 0 rfl rfl 13 (by decide) (hts (.fieldLink RX9 38 "TraitHouseModel" "tape" "[B") (by decide +kernel)) (fun _ h9 => h9) rfl dX9_isIn_19 ?_
      refine lv_iload_n hx hb dX9_isIn_22 rfl (lv_at hl 1 rfl) ?_
      have h_5 : vp_in kk 200 := (vp_in_iff.mpr ⟨by omega, by omega⟩)
      refine va_bald hx hb hK hP 1 3 rfl rfl h_5 dX9_isIn_23 ?_
      refine lv_topi (fun x_6 ex_6 => ?_)
      refine lv_iload_n hx hb dX9_isIn_24 rfl (lv_at hl 3 rfl) ?_
      refine lv_icmp_gt (tgt := 32) hx hb dX9_isIn_25 (by decide) (fun c_7 => ?_) (fun c_7 => ?_)
      · have dc_7 : hi.toInt < x_6.toInt := jI_lt c_7 rfl rfl
        refine lv_iconst (v := 0) hx hb dX9_isIn_32 (by decide) ?_
        have hP9 := hP.sub (ws' := [((am 0), .inr (9, F9 am v_status v_now v_told v_merges v_taped v_size v_from v_to v_fault v_readFault v_traits v_length v_open v_leaks v_places v_models)), ((am 10), .inl (cA 3, 200, .inl f_tape))]) [0, 1] rfl
        have hD9 := hD.sub (ws' := [((am 0), .inr (9, F9 am v_status v_now v_told v_merges v_taped v_size v_from v_to v_fault v_readFault v_traits v_length v_open v_leaks v_places v_models)), ((am 10), .inl (cA 3, 200, .inl f_tape))]) [0, 1] (by decide) rfl
        subst hQe
        have hans : (0 : Int32).toInt = 0 := (by decide)
        exact W.zret (v := 0) hx hb hr (by decide) (fun t ht hW => ⟨⟨0, (), rfl, by (have zx_3 := congrArg Int32.toInt ex_3; have zx_6 := congrArg Int32.toInt ex_6; refine ⟨by omega, fun h => ?_, fun h1 h2 => ?_⟩ <;> omega), by rw [ht]; exact hP9, hD9⟩, hS.F ht⟩) hS.2.2 dX9_isIn_33
      · have dc_7 : x_6.toInt ≤ hi.toInt := jI_nlt c_7 rfl rfl
        refine lv_iconst (v := 1) hx hb dX9_isIn_28 (by decide) ?_
        refine lv_goto (tgt := 33) hx hb dX9_isIn_29 (by decide) ?_
        have hP9 := hP.sub (ws' := [((am 0), .inr (9, F9 am v_status v_now v_told v_merges v_taped v_size v_from v_to v_fault v_readFault v_traits v_length v_open v_leaks v_places v_models)), ((am 10), .inl (cA 3, 200, .inl f_tape))]) [0, 1] rfl
        have hD9 := hD.sub (ws' := [((am 0), .inr (9, F9 am v_status v_now v_told v_merges v_taped v_size v_from v_to v_fault v_readFault v_traits v_length v_open v_leaks v_places v_models)), ((am 10), .inl (cA 3, 200, .inl f_tape))]) [0, 1] (by decide) rfl
        subst hQe
        have hans : (1 : Int32).toInt = 1 := (by decide)
        exact W.zret (v := 1) hx hb hr (by decide) (fun t ht hW => ⟨⟨1, (), rfl, by (have zx_3 := congrArg Int32.toInt ex_3; have zx_6 := congrArg Int32.toInt ex_6; refine ⟨by omega, fun h => ?_, fun h1 h2 => ?_⟩ <;> omega), by rw [ht]; exact hP9, hD9⟩, hS.F ht⟩) hS.2.2 dX9_isIn_33
