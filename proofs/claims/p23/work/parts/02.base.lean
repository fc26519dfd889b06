/-! facts of numbers, in Int -/
theorem jI_lt {a b : Int32} {x y : Int} (h : a < b) (ha : a.toInt = x) (hb : b.toInt = y) : x < y := by rw [← ha, ← hb]; exact Int32.lt_iff_toInt_lt.mp h
theorem jI_le {a b : Int32} {x y : Int} (h : a ≤ b) (ha : a.toInt = x) (hb : b.toInt = y) : x ≤ y := by rw [← ha, ← hb]; exact Int32.le_iff_toInt_le.mp h
theorem jI_nlt {a b : Int32} {x y : Int} (h : ¬ a < b) (ha : a.toInt = x) (hb : b.toInt = y) : y ≤ x := by
  rw [← ha, ← hb]
  have h2 : ¬ a.toInt < b.toInt := fun q => h (Int32.lt_iff_toInt_lt.mpr q)
  omega
theorem jI_nle {a b : Int32} {x y : Int} (h : ¬ a ≤ b) (ha : a.toInt = x) (hb : b.toInt = y) : y < x := by
  rw [← ha, ← hb]
  have h2 : ¬ a.toInt ≤ b.toInt := fun q => h (Int32.le_iff_toInt_le.mpr q)
  omega
theorem jI_eq {a b : Int32} {x y : Int} (h : a = b) (ha : a.toInt = x) (hb : b.toInt = y) : x = y := by rw [← ha, ← hb, h]
theorem jI_ne {a b : Int32} {x y : Int} (h : ¬ a = b) (ha : a.toInt = x) (hb : b.toInt = y) : ¬ x = y := by
  rw [← ha, ← hb]
  exact fun q => h (Int32.toInt_inj.mp q)
theorem jI_nne {a b : Int32} {x y : Int} (h : ¬ ¬ a = b) (ha : a.toInt = x) (hb : b.toInt = y) : x = y := jI_eq (Classical.not_not.mp h) ha hb
theorem jI_bmod {z : Int} (h1 : -2147483648 ≤ z) (h2 : z < 2147483648) : z.bmod (2 ^ 32) = z := by
  rw [Int.bmod_eq_of_le (by omega) (by omega)]
theorem jI_add {a b : Int32} {x y : Int} (ha : a.toInt = x) (hb : b.toInt = y) (h1 : -2147483648 ≤ x + y) (h2 : x + y < 2147483648) : (a + b).toInt = x + y := by rw [Int32.toInt_add, ha, hb, jI_bmod h1 h2]
theorem jI_sub {a b : Int32} {x y : Int} (ha : a.toInt = x) (hb : b.toInt = y) (h1 : -2147483648 ≤ x - y) (h2 : x - y < 2147483648) : (a - b).toInt = x - y := by rw [Int32.toInt_sub, ha, hb, jI_bmod h1 h2]
theorem jI_mul {a b : Int32} {x y : Int} (ha : a.toInt = x) (hb : b.toInt = y) (h1 : -2147483648 ≤ x * y) (h2 : x * y < 2147483648) : (a * b).toInt = x * y := by rw [Int32.toInt_mul, ha, hb, jI_bmod h1 h2]
theorem jI_min {v a b : Int32} {x y : Int} (e : v = if b < a then b else a) (ha : a.toInt = x) (hb : b.toInt = y) : v.toInt = min x y := by
  rw [e, ← ha, ← hb]
  split
  · next h => have := Int32.lt_iff_toInt_lt.mp h; omega
  · next h =>
    have : ¬ b.toInt < a.toInt := fun q => h (Int32.lt_iff_toInt_lt.mpr q)
    omega
theorem jI_max {v a b : Int32} {x y : Int} (e : v = if a < b then b else a) (ha : a.toInt = x) (hb : b.toInt = y) : v.toInt = max x y := by
  rw [e, ← ha, ← hb]
  split
  · next h => have := Int32.lt_iff_toInt_lt.mp h; omega
  · next h =>
    have : ¬ a.toInt < b.toInt := fun q => h (Int32.lt_iff_toInt_lt.mpr q)
    omega
theorem jI_cmp {k : Int32} {a b : Int64} {x y : Int} (e : k = lg_cmp a b) (ha : a.toInt = x) (hb : b.toInt = y) : (k.toInt < 0 ↔ x < y) ∧ (k.toInt = 0 ↔ x = y) ∧ (0 < k.toInt ↔ y < x) := by
  have h1 := lg_cmp_lt a b
  have h2 := lg_cmp_eq a b
  have h3 := lg_cmp_gt a b
  rw [← e] at h1 h2 h3
  rw [Int32.lt_iff_toInt_lt, Int64.lt_iff_toInt_lt, ha, hb] at h1 h3
  rw [← Int32.toInt_inj, ← Int64.toInt_inj, ha, hb] at h2
  have z : (0 : Int32).toInt = 0 := by decide
  rw [z] at h1 h2 h3
  exact ⟨h1, h2, h3⟩
theorem jI_0div (b : Int32) : (0 : Int32) / b = 0 := Int32.zero_div
theorem jI_ne0 {x : Int32} (h : x.toInt ≠ 0) : ¬ x = 0 := fun q => h (by rw [q]; decide)
theorem jI_div {a b : Int32} {x y : Int} (ha : a.toInt = x) (hb : b.toInt = y) (h1 : 0 ≤ x) (h2 : 0 < y) : (a / b).toInt = x / y := by
  have h3 : x < 2147483648 := by rw [← ha]; exact Int32.toInt_lt a
  have h4 : 0 ≤ x / y := Int.ediv_nonneg h1 (by omega)
  have h5 : x / y ≤ x := Int.ediv_le_self y h1
  rw [Int32.toInt_div, ha, hb, Int.tdiv_eq_ediv_of_nonneg h1]
  exact jI_bmod (by omega) (by omega)
theorem jnarZ {r : Int32} (h : r.toInt = 0 ∨ r.toInt = 1) : narrow .boolean (.int r) = .int r := by
  rcases h with h | h
  · obtain rfl : r = 0 := Int32.toInt_inj.mp (h.trans (by decide))
    decide
  · obtain rfl : r = 1 := Int32.toInt_inj.mp (h.trans (by decide))
    decide
theorem jI_ushr0 (a : Int32) : (a.toUInt32 >>> ((0 : Int32).toUInt32 &&& Int32.toUInt32 31)).toInt32 = a := by
  have h : ((0 : Int32).toUInt32 &&& Int32.toUInt32 31) = 0 := by decide
  rw [h]
  simp
theorem jI_range (x : Int32) (lo hi : Int) : (x.toInt < lo ∨ hi < x.toInt) ∨ (lo ≤ x.toInt ∧ x.toInt ≤ hi) := by omega
theorem jix {i : Int32} {n : Nat} (h : vp_in i n) : i.toNatClampNeg < n := Nat.not_le.mp fun q => h (Or.inr q)
/-! links between nest mates: they ride beside the words -/
def nw_all : List Cond := [.fieldLinkNest "TraitHouse$Worker" 79 "TraitHouse$Rows" "people" "[I" "TraitHouse", .fieldLinkNest "TraitHouse$Worker" 122 "TraitHouse$Rows" "streams" "[I" "TraitHouse", .fieldLinkNest "TraitHouse$Worker" 82 "TraitHouse$Rows" "moments" "[I" "TraitHouse", .fieldLinkNest "TraitHouse$Worker" 85 "TraitHouse$Rows" "knowns" "[I" "TraitHouse", .fieldLinkNest "TraitHouse$Worker" 125 "TraitHouse$Rows" "values" "[I" "TraitHouse", .fieldLinkNest "TraitHouse$Worker" 74 "TraitHouse$Rows" "size" "I" "TraitHouse", .fieldLinkNest "TraitHouse" 286 "TraitHouse$Rows" "size" "I" "TraitHouse", .fieldLinkNest "TraitHouse" 287 "TraitHouse$Merges" "size" "I" "TraitHouse", .fieldLinkNest "TraitHouse$Reader" 135 "TraitHouse$Tape" "bytes" "[I" "TraitHouse", .fieldLinkNest "TraitHouse$Reader" 51 "TraitHouse$Tape" "size" "I" "TraitHouse", .fieldLinkNest "TraitHouse" 142 "TraitHouse$Tape" "size" "I" "TraitHouse", .fieldLinkNest "TraitHouse" 166 "TraitHouse$Reader" "reads" "I" "TraitHouse", .fieldLinkNest "TraitHouse" 158 "TraitHouse$Reader" "leaks" "Z" "TraitHouse", .fieldLinkNest "TraitHouse" 241 "TraitHouse$Places" "moments" "[I" "TraitHouse", .fieldLinkNest "TraitHouse" 244 "TraitHouse$Places" "filled" "[Z" "TraitHouse", .fieldLinkNest "TraitHouse" 238 "TraitHouse$Places" "values" "[J" "TraitHouse", .fieldLinkNest "TraitHouse" 288 "TraitHouse$Places" "size" "I" "TraitHouse", .fieldLinkNest "TraitHouse$Worker" 99 "TraitHouse$Step" "kind" "I" "TraitHouse", .fieldLinkNest "TraitHouse$Worker" 104 "TraitHouse$Step" "number" "I" "TraitHouse", .fieldLinkNest "TraitHouse$Worker" 144 "TraitHouse$Step" "from" "I" "TraitHouse", .fieldLinkNest "TraitHouse$Worker" 147 "TraitHouse$Step" "to" "I" "TraitHouse", .fieldLinkNest "TraitHouse$Worker" 54 "TraitHouse$Trait" "steps" "[LTraitHouse$Step;" "TraitHouse", .fieldLinkNest "TraitHouse$Worker" 40 "TraitHouse$Trait" "needs" "I" "TraitHouse", .fieldLinkNest "TraitHouse" 297 "TraitHouse$Trait" "needs" "I" "TraitHouse", .fieldLinkNest "TraitHouse" 210 "TraitHouse$Trait" "keptValues" "[J" "TraitHouse", .fieldLinkNest "TraitHouse" 217 "TraitHouse$Trait" "keptMoments" "[I" "TraitHouse", .fieldLinkNest "TraitHouse" 181 "TraitHouse$Trait" "lawFrom" "J" "TraitHouse", .fieldLinkNest "TraitHouse" 185 "TraitHouse$Trait" "lawTo" "J" "TraitHouse", .fieldLinkNest "TraitHouse" 188 "TraitHouse$Trait" "staleAbove" "I" "TraitHouse", .fieldLinkNest "TraitHouse" 191 "TraitHouse$Trait" "heldInAll" "I" "TraitHouse", .methodLinkNest "TraitHouse" 9 ⟨"TraitHouse$Rows", "<init>", "()V"⟩ "TraitHouse", .methodLinkNest "TraitHouse" 18 ⟨"TraitHouse$Merges", "<init>", "()V"⟩ "TraitHouse", .methodLinkNest "TraitHouse" 29 ⟨"TraitHouse$Tape", "<init>", "()V"⟩ "TraitHouse", .methodLinkNest "TraitHouse" 36 ⟨"TraitHouse$Reader", "<init>", "(LTraitHouse$Tape;)V"⟩ "TraitHouse", .methodLinkNest "TraitHouse" 51 ⟨"TraitHouse$Worker", "<init>", "(LTraitHouse$Rows;LTraitHouse$Merges;[LTraitHouse$Trait;)V"⟩ "TraitHouse", .methodLinkNest "TraitHouse" 60 ⟨"TraitHouse$Places", "<init>", "()V"⟩ "TraitHouse", .methodLinkNest "TraitHouse" 103 ⟨"TraitHouse$Rows", "isFull", "()Z"⟩ "TraitHouse", .methodLinkNest "TraitHouse" 107 ⟨"TraitHouse$Rows", "add", "(IIIII)I"⟩ "TraitHouse", .methodLinkNest "TraitHouse" 114 ⟨"TraitHouse$Merges", "isTold", "(I)Z"⟩ "TraitHouse", .methodLinkNest "TraitHouse" 118 ⟨"TraitHouse$Merges", "lastOf", "(II)I"⟩ "TraitHouse", .methodLinkNest "TraitHouse" 122 ⟨"TraitHouse$Merges", "add", "(III)I"⟩ "TraitHouse", .methodLinkNest "TraitHouse" 134 ⟨"TraitHouse$Trait", "forget", "(I)V"⟩ "TraitHouse", .methodLinkNest "TraitHouse" 138 ⟨"TraitHouse$Places", "forget", "(I)V"⟩ "TraitHouse", .methodLinkNest "TraitHouse" 139 ⟨"TraitHouse$Rows", "drop", "(I)I"⟩ "TraitHouse", .methodLinkNest "TraitHouse" 145 ⟨"TraitHouse$Tape", "append", "(I)V"⟩ "TraitHouse", .methodLinkNest "TraitHouse" 155 ⟨"TraitHouse$Reader", "read", "(I)I"⟩ "TraitHouse", .methodLinkNest "TraitHouse$Reader" 139 ⟨"TraitHouse$Step", "<init>", "(IIII)V"⟩ "TraitHouse", .methodLinkNest "TraitHouse" 162 ⟨"TraitHouse$Reader", "stepsRead", "()[LTraitHouse$Step;"⟩ "TraitHouse", .methodLinkNest "TraitHouse" 172 ⟨"TraitHouse$Trait", "<init>", "([LTraitHouse$Step;I)V"⟩ "TraitHouse", .methodLinkNest "TraitHouse" 177 ⟨"TraitHouse$Worker", "make", "(IIII)J"⟩ "TraitHouse", .methodLinkNest "TraitHouse$Worker" 62 ⟨"TraitHouse$Merges", "lastOf", "(II)I"⟩ "TraitHouse", .methodLinkNest "TraitHouse$Worker" 50 ⟨"TraitHouse", "hasBit", "(II)Z"⟩ "TraitHouse", .methodLinkNest "TraitHouse" 198 ⟨"TraitHouse$Trait", "isOutside", "(J)Z"⟩ "TraitHouse", .methodLinkNest "TraitHouse" 202 ⟨"TraitHouse$Trait", "keep", "(IJI)V"⟩ "TraitHouse", .methodLinkNest "TraitHouse" 206 ⟨"TraitHouse$Places", "put", "(IIIZJ)V"⟩ "TraitHouse", .methodLinkNest "TraitHouse" 214 ⟨"TraitHouse$Trait", "isKept", "(I)Z"⟩ "TraitHouse", .methodLinkNest "TraitHouse" 220 ⟨"TraitHouse$Trait", "isStale", "(II)Z"⟩ "TraitHouse", .methodLinkNest "TraitHouse" 232 ⟨"TraitHouse$Places", "free", "()I"⟩ "TraitHouse", .methodLinkNest "TraitHouse" 247 ⟨"TraitHouse$Places", "find", "(III)I"⟩ "TraitHouse", .methodLinkNest "TraitHouse" 259 ⟨"TraitHouse$Trait", "isMissing", "(II)Z"⟩ "TraitHouse"]
def nw_is : Cond → Bool
  | .fieldLinkNest _ _ _ _ _ _ => true
  | .methodLinkNest _ _ _ _ => true
  | _ => false
theorem nw_all_is : ∀ w ∈ nw_all, nw_is w = true := by decide +kernel
def nw_ok (U : State) : Prop := (∀ w ∈ nw_all, va_Nw w U) ∧ va_AO RX4 U ∧ va_AO RX6 U
theorem nw_at {U : State} (h : nw_ok U) (i : Nat) {w : Cond} (hw : nw_all[i]? = some w) : va_Nw w U := h.1 w (List.mem_of_getElem? hw)
theorem nw_ok.warm {s U : State} (h : nw_ok s) (hW : s.WarmedH U.vm) : nw_ok U := by
  refine ⟨?_, h.2.1.moved hW.alike, h.2.2.moved hW.alike⟩
  intro w hw
  have h1 := nw_all_is w hw
  have h2 := h.1 w hw
  cases w with
  | fieldLinkNest a b c d e f => exact va_Nw.warmF hW h2
  | methodLinkNest a b c d => exact va_Nw.warmM hW h2
  | _ => exact absurd h1 (by simp [nw_is])
theorem nw_ok.same {u U : State} (h : nw_ok u) (e : u.vm = U.vm) : nw_ok U := by
  have ea : u.vm.Alike U.vm := by rw [← e]; exact Vm.Alike.refl u.vm
  refine ⟨?_, h.2.1.moved ea, h.2.2.moved ea⟩
  intro w hw
  have h1 := nw_all_is w hw
  have h2 := h.1 w hw
  cases w with
  | fieldLinkNest a b c d e f => exact va_Nw.same rfl (by assumption) h2
  | methodLinkNest a b c d => exact va_Nw.same rfl (by assumption) h2
  | _ => exact absurd h1 (by simp [nw_is])
theorem nw_tbl : ∀ w ∈ nw_all, w ∈ tables_1 := by decide +kernel
theorem jfill {g g' : Nat → Int32} {i i' v : Int32} (h : ∀ k : Nat, (k : Int) < i.toInt → g k = v) (e : g' = upd g i.toNatClampNeg v) (h0 : 0 ≤ i.toInt) (hi : i'.toInt = i.toInt + 1) : ∀ k : Nat, (k : Int) < i'.toInt → g' k = v := by
  intro k hk
  rw [e]
  by_cases hh : k = i.toNatClampNeg
  · subst hh; exact pk_us
  · rw [pk_un hh]
    have hc : i.toNatClampNeg = i.toInt.toNat := rfl
    exact h k (by omega)
