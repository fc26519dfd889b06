/-- the String constants of the Reader: entry, text, bytes -/
def sx : List (Nat × String × List Int32) := [(61, "+", [43]), (67, "-", [45]), (76, "*", [42]), (78, "/", [47]), (83, "else", [101, 108, 115, 101]), (93, "(", [40]), (105, ")", [41]), (114, "from", [102, 114, 111, 109]), (116, "to", [116, 111]), (118, "ahead", [97, 104, 101, 97, 100]), (120, "trait", [116, 114, 97, 105, 116]), (122, "last", [108, 97, 115, 116]), (124, "age", [97, 103, 101]), (126, "count", [99, 111, 117, 110, 116]), (128, "sum", [115, 117, 109]), (130, "least", [108, 101, 97, 115, 116]), (132, "most", [109, 111, 115, 116])]
def sidx (i : Nat) : Nat := (sx.getD i (0, "", [])).1
def stx (i : Nat) : String := (sx.getD i (0, "", [])).2.1
def sbyt (i : Nat) : List Int32 := (sx.getD i (0, "", [])).2.2
def slen (i : Nat) : Nat := (sbyt i).length
theorem slen_pos : ∀ i, i < 17 → 1 ≤ slen i ∧ slen i < 6 := by decide +kernel
theorem sbyt_ch : ∀ i, i < 17 → ∀ j, j < 6 → ((((sbyt i).getD j 0) &&& 255).toUInt32 % 65536).toInt32 = (sbyt i).getD j 0 ∧ narrow .char (.int ((sbyt i).getD j 0)) = .int ((sbyt i).getD j 0) := by decide +kernel
def st_S (adK adV : Nat → Nat) (A : Nat → Prop) (U : State) (H : Heap) : Prop := ∀ i : Nat, i < 17 → va_O "java/lang/String" (adK i) A U H ∧ va_OF "java/lang/String" "coder" "B" (.int 0) (adK i) A U H ∧ va_OF "java/lang/String" "value" "[B" (.ref (adV i)) (adK i) A U H ∧ va_T .byte (adV i) (slen i) (fun j => .int ((sbyt i).getD j 0)) A U H
def st_ok (adK adV : Nat → Nat) (A : Nat → Prop) (U : State) : Prop := nw_ok U ∧ (∀ i : Nat, i < 17 → vk_R RX2 (sidx i) (stx i) (adK i) U) ∧ st_S adK adV A U U.heap ∧ va_Z "java/lang/String" "COMPACT_STRINGS" "Z" (.int 1) A U U.heap ∧ va_Zq "jdk/internal/util/Preconditions" "SIOOBE_FORMATTER" "Ljava/util/function/BiFunction;" A U U.heap
theorem st_ok.call {adK adV : Nat → Nat} {A B : Nat → Prop} {s U : State} {H : Heap} {locs : List Loc} (h : st_ok adK adV A s) (hS : va_S A s.heap H locs) (hU : U.heap = H) (hW : s.WarmedH U.vm) (hF : ∀ q, B q → A q) : st_ok adK adV B U := by
  subst hU
  refine ⟨h.1.warm hW, fun i hi => (h.2.1 i hi).warm hW, fun i hi => ?_, ((h.2.2.2.1.kept (fun a _ => hS.2.1 a (by assumption))).moved hW.alike).narrow hF, ((h.2.2.2.2.kept (fun a _ => hS.2.1 a (by assumption))).moved hW.alike).narrow hF⟩
  obtain ⟨a1, a2, a3, a4⟩ := h.2.2.1 i hi
  exact ⟨((a1.kept (fun a _ => hS.2.1 a (by assumption))).moved hW.alike).narrow hF, ((a2.kept (fun a _ => hS.2.1 a (by assumption))).moved hW.alike).narrow hF, ((a3.kept (fun a _ => hS.2.1 a (by assumption))).moved hW.alike).narrow hF, ((a4.kept (fun a _ => hS.2.1 a (by assumption))).moved hW.alike).narrow hF⟩
theorem st_ok.same {adK adV : Nat → Nat} {A : Nat → Prop} {u U : State} (h : st_ok adK adV A u) (ev : u.vm = U.vm) (eh : u.heap = U.heap) : st_ok adK adV A U := by
  have ea : u.vm.Alike U.vm := by rw [← ev]; exact Vm.Alike.refl u.vm
  refine ⟨h.1.same ev, fun i hi => (h.2.1 i hi).same ev.symm, fun i hi => ?_, by rw [← eh]; exact h.2.2.2.1.moved ea, by rw [← eh]; exact h.2.2.2.2.moved ea⟩
  rw [← eh]
  obtain ⟨a1, a2, a3, a4⟩ := h.2.2.1 i hi
  exact ⟨a1.moved ea, a2.moved ea, a3.moved ea, a4.moved ea⟩
theorem st_recv {adK adV : Nat → Nat} {A : Nat → Prop} {s : State} {H : Heap} {locs : List Loc} {i : Nat} (hE : st_S adK adV A s s.heap) (hi : i < 17) (hS : va_S A s.heap H locs) : ∃ cell : Cell, H[adK i]? = some cell ∧ cell.vm.isStatics = false ∧ s.vm.findClass "java/lang/String" = some cell.cls := by
  obtain ⟨cell, h1, h2, h3, -⟩ := (hE i hi).1.kept hS.2.1
  exact ⟨cell, h1, h2, h3⟩
theorem slen_int (i : Nat) (hi : i < 17) : (Int32.ofNat (slen i)).toInt = (slen i : Int) := by
  have h := slen_pos i hi
  exact nI_toInt (by omega)

set_option maxHeartbeats 8000000 in
set_option maxRecDepth 100000 in
theorem k_J0_coder_7d493 (l : Launch) (dC : Nat → ClassId) (dI : Nat → Nat → Nat) (cA : Nat → ClassId) (sz : Nat) (adK : Nat → Nat) (adV : Nat → Nat) (i : Nat)  (hi : i < 17) : Met l yJ0_coder_7d493 wsJ0_coder_7d493 ({ frames := 0, cells := 0, slots := 0, locals := 0 }) (va_Pc [.ref (adK i)] (fun U => U.heap.size = sz ∧ va_P (dC, dI) vwCl [] U.heap ∧ va_K (dC, dI) vwCl (tyL cA) U ∧ va_D (fun _ => True) [] ∧ st_ok adK adV (va_A [] sz) U)) (va_Qi (fun (r : Int32) (_ : Unit) => (r = 0)) (fun (_ : Unit) (t : State) => va_P (dC, dI) vwCl [] t.heap ∧ va_D (va_A [] sz) []) (va_A [] sz)) 0 0 (va_A [] sz) := by
  sorry
set_option maxHeartbeats 8000000 in
set_option maxRecDepth 100000 in
theorem k_J0_isLatin1_aae02 (l : Launch) (dC : Nat → ClassId) (dI : Nat → Nat → Nat) (cA : Nat → ClassId) (sz : Nat) (adK : Nat → Nat) (adV : Nat → Nat) (i : Nat)  (hi : i < 17) : Met l yJ0_isLatin1_aae02 wsJ0_isLatin1_aae02 ({ frames := 0, cells := 0, slots := 0, locals := 0 }) (va_Pc [.ref (adK i)] (fun U => U.heap.size = sz ∧ va_P (dC, dI) vwCl [] U.heap ∧ va_K (dC, dI) vwCl (tyL cA) U ∧ va_D (fun _ => True) [] ∧ st_ok adK adV (va_A [] sz) U)) (va_Qi (fun (r : Int32) (_ : Unit) => (r = 1)) (fun (_ : Unit) (t : State) => va_P (dC, dI) vwCl [] t.heap ∧ va_D (va_A [] sz) []) (va_A [] sz)) 0 0 (va_A [] sz) := by
  sorry
set_option maxHeartbeats 8000000 in
set_option maxRecDepth 100000 in
theorem k_J0_length_8abf5 (l : Launch) (dC : Nat → ClassId) (dI : Nat → Nat → Nat) (cA : Nat → ClassId) (sz : Nat) (adK : Nat → Nat) (adV : Nat → Nat) (i : Nat)  (hi : i < 17) : Met l yJ0_length_8abf5 wsJ0_length_8abf5 ({ frames := 1, cells := 0, slots := 0, locals := 20 }) (va_Pc [.ref (adK i)] (fun U => U.heap.size = sz ∧ va_P (dC, dI) vwCl [] U.heap ∧ va_K (dC, dI) vwCl (tyL cA) U ∧ va_D (fun _ => True) [] ∧ st_ok adK adV (va_A [] sz) U)) (va_Qi (fun (r : Int32) (_ : Unit) => (r.toInt = (slen i : Int) ∧ 1 ≤ r.toInt ∧ r.toInt ≤ 5)) (fun (_ : Unit) (t : State) => va_P (dC, dI) vwCl [] t.heap ∧ va_D (va_A [] sz) []) (va_A [] sz)) 0 0 (va_A [] sz) := by
  sorry
set_option maxHeartbeats 8000000 in
set_option maxRecDepth 100000 in
theorem k_J3_ck_n (l : Launch) (dC : Nat → ClassId) (dI : Nat → Nat → Nat) (cA : Nat → ClassId) (sz : Nat) (a : Int32) (b : Int32)  (hab : 0 ≤ a.toInt ∧ a.toInt < b.toInt) : Met l yJ3_checkIndex_8e157 wsJ3_checkIndex_8e157 ({ frames := 0, cells := 0, slots := 0, locals := 0 }) (va_Pc [.int a, .int b, .null] (fun U => U.heap.size = sz ∧ va_P (dC, dI) vwCl [] U.heap ∧ va_K (dC, dI) vwCl (tyL cA) U ∧ va_D (fun _ => True) [] ∧ nw_ok U)) (va_Qi (fun (r : Int32) (_ : Unit) => True) (fun (_ : Unit) (t : State) => va_P (dC, dI) vwCl [] t.heap ∧ va_D (va_A [] sz) []) (va_A [] sz)) 0 0 (va_A [] sz) := by
  sorry
set_option maxHeartbeats 8000000 in
set_option maxRecDepth 100000 in
theorem k_J3_ck_r (l : Launch) (dC : Nat → ClassId) (dI : Nat → Nat → Nat) (cA : Nat → ClassId) (sz : Nat) (a : Int32) (b : Int32) (zz : Nat)  (hab : 0 ≤ a.toInt ∧ a.toInt < b.toInt) : Met l yJ3_checkIndex_8e157 wsJ3_checkIndex_8e157 ({ frames := 0, cells := 0, slots := 0, locals := 0 }) (va_Pc [.int a, .int b, .ref zz] (fun U => U.heap.size = sz ∧ va_P (dC, dI) vwCl [] U.heap ∧ va_K (dC, dI) vwCl (tyL cA) U ∧ va_D (fun _ => True) [] ∧ nw_ok U)) (va_Qi (fun (r : Int32) (_ : Unit) => True) (fun (_ : Unit) (t : State) => va_P (dC, dI) vwCl [] t.heap ∧ va_D (va_A [] sz) []) (va_A [] sz)) 0 0 (va_A [] sz) := by
  sorry
set_option maxHeartbeats 8000000 in
set_option maxRecDepth 100000 in
theorem k_J0_checkIndex_df160 (l : Launch) (dC : Nat → ClassId) (dI : Nat → Nat → Nat) (cA : Nat → ClassId) (sz : Nat) (adK : Nat → Nat) (adV : Nat → Nat) (a : Int32) (b : Int32)  (hab : 0 ≤ a.toInt ∧ a.toInt < b.toInt) : Met l yJ0_checkIndex_df160 wsJ0_checkIndex_df160 ({ frames := 1, cells := 0, slots := 0, locals := 22 }) (va_Pc [.int a, .int b] (fun U => U.heap.size = sz ∧ va_P (dC, dI) vwCl [] U.heap ∧ va_K (dC, dI) vwCl (tyL cA) U ∧ va_D (fun _ => True) [] ∧ st_ok adK adV (va_A [] sz) U)) (va_Qv (fun (_ : Unit) => True) (fun (_ : Unit) (t : State) => va_P (dC, dI) vwCl [] t.heap ∧ va_D (va_A [] sz) []) (va_A [] sz)) 0 0 (va_A [] sz) := by
  sorry
set_option maxHeartbeats 8000000 in
set_option maxRecDepth 100000 in
theorem k_J1_charAt_3b067 (l : Launch) (dC : Nat → ClassId) (dI : Nat → Nat → Nat) (cA : Nat → ClassId) (sz : Nat) (adK : Nat → Nat) (adV : Nat → Nat) (i : Nat) (jj : Int32)  (hi : i < 17) (hj : 0 ≤ jj.toInt ∧ jj.toInt < (slen i : Int)) : Met l yJ1_charAt_3b067 wsJ1_charAt_3b067 ({ frames := 2, cells := 0, slots := 0, locals := 43 }) (va_Pc [.ref (adV i), .int jj] (fun U => U.heap.size = sz ∧ va_P (dC, dI) vwCl [] U.heap ∧ va_K (dC, dI) vwCl (tyL cA) U ∧ va_D (fun _ => True) [] ∧ st_ok adK adV (va_A [] sz) U)) (va_Qi (fun (r : Int32) (_ : Unit) => (r = (sbyt i).getD jj.toNatClampNeg 0)) (fun (_ : Unit) (t : State) => va_P (dC, dI) vwCl [] t.heap ∧ va_D (va_A [] sz) []) (va_A [] sz)) 0 0 (va_A [] sz) := by
  sorry
set_option maxHeartbeats 8000000 in
set_option maxRecDepth 100000 in
theorem k_J0_charAt_5068e (l : Launch) (dC : Nat → ClassId) (dI : Nat → Nat → Nat) (cA : Nat → ClassId) (sz : Nat) (adK : Nat → Nat) (adV : Nat → Nat) (i : Nat) (jj : Int32)  (hi : i < 17) (hj : 0 ≤ jj.toInt ∧ jj.toInt < (slen i : Int)) : Met l yJ0_charAt_5068e wsJ0_charAt_5068e ({ frames := 3, cells := 0, slots := 0, locals := 64 }) (va_Pc [.ref (adK i), .int jj] (fun U => U.heap.size = sz ∧ va_P (dC, dI) vwCl [] U.heap ∧ va_K (dC, dI) vwCl (tyL cA) U ∧ va_D (fun _ => True) [] ∧ st_ok adK adV (va_A [] sz) U)) (va_Qi (fun (r : Int32) (_ : Unit) => (r = (sbyt i).getD jj.toNatClampNeg 0)) (fun (_ : Unit) (t : State) => va_P (dC, dI) vwCl [] t.heap ∧ va_D (va_A [] sz) []) (va_A [] sz)) 0 0 (va_A [] sz) := by
  sorry
