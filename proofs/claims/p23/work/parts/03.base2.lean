/-! second base: array classes by type, bounds of arrays, room that is really used -/
abbrev tyL (cA : Nat → ClassId) : List (ClassId × FieldType) := [(cA 0, .int), (cA 1, .long), (cA 2, .boolean), (cA 3, .byte), (cA 4, .object RX4), (cA 5, .object RX6)]
theorem ty_uni0 {D : va_G} {cl : List vw_C} {cA : Nat → ClassId} {cx : ClassId} {s : State} (hK : va_K D cl (tyL cA ++ [(cx, .int)]) s) : cA 0 = cx := by
  have h1 : s.vm.findClass ("[" ++ FieldType.int.toString) = some (cA 0) := (hK.2 0 _ rfl).2
  have h2 : s.vm.findClass ("[" ++ FieldType.int.toString) = some cx := (hK.2 6 _ rfl).2
  exact Option.some.inj (h1.symm.trans h2)
theorem ty_uni1 {D : va_G} {cl : List vw_C} {cA : Nat → ClassId} {cx : ClassId} {s : State} (hK : va_K D cl (tyL cA ++ [(cx, .long)]) s) : cA 1 = cx := by
  have h1 : s.vm.findClass ("[" ++ FieldType.long.toString) = some (cA 1) := (hK.2 1 _ rfl).2
  have h2 : s.vm.findClass ("[" ++ FieldType.long.toString) = some cx := (hK.2 6 _ rfl).2
  exact Option.some.inj (h1.symm.trans h2)
theorem ty_uni4 {D : va_G} {cl : List vw_C} {cA : Nat → ClassId} {cx : ClassId} {s : State} (hK : va_K D cl (tyL cA ++ [(cx, .object RX4)]) s) : cA 4 = cx := by
  obtain ⟨-, -, -, -, -, h1⟩ := (hK.2 4 _ rfl).2
  obtain ⟨-, -, -, -, -, h2⟩ := (hK.2 6 _ rfl).2
  exact Option.some.inj (h1.symm.trans h2)
def inB (lo hi : Int) (n : Nat) (f : Nat → Int32) : Prop := ∀ k : Nat, k < n → lo ≤ (f k).toInt ∧ (f k).toInt ≤ hi
theorem inB_upd {lo hi : Int} {n k : Nat} {f : Nat → Int32} {x : Int32} (h : inB lo hi n f) (h1 : lo ≤ x.toInt) (h2 : x.toInt ≤ hi) : inB lo hi n (upd f k x) := by
  intro j hj
  by_cases e : j = k
  · subst e; rw [pk_us]; exact ⟨h1, h2⟩
  · rw [pk_un e]; exact h j hj
theorem inB_0 {lo hi : Int} {n : Nat} (h1 : lo ≤ 0) (h2 : 0 ≤ hi) : inB lo hi n (fun _ => 0) := by
  intro j _
  have e : (0 : Int32).toInt = 0 := by decide
  show lo ≤ (0 : Int32).toInt ∧ (0 : Int32).toInt ≤ hi
  rw [e]; exact ⟨h1, h2⟩
theorem jL_ne0 {x : Int64} (h : x.toInt ≠ 0) : ¬ x = 0 := fun q => h (by rw [q]; decide)
theorem jL_0 {x : Int64} : x.toInt = 0 ↔ x = 0 := by
  have z : (0 : Int64).toInt = 0 := by decide
  rw [← z, Int64.toInt_inj]
theorem jL_neg0 (x : Int64) : (-x).toInt = 0 ↔ x.toInt = 0 := by
  rw [jL_0, jL_0]
  constructor
  · intro h
    have := congrArg (fun y : Int64 => -y) h
    simpa using this
  · intro h; rw [h]; decide
theorem jL_abs0 {x y : Int64} (e : y = if 0 < x then x else -x) : y.toInt = 0 ↔ x.toInt = 0 := by
  rw [e]
  split
  · exact Iff.rfl
  · exact jL_neg0 x
theorem jL_i {x : Int32} {y : Int64} (e : x = y.toInt32) (h1 : -2147483648 ≤ y.toInt) (h2 : y.toInt < 2147483648) : x.toInt = y.toInt := by
  rw [e, Int64.toInt_toInt32]
  exact jI_bmod h1 h2
theorem jL_bmod {z : Int} (h1 : -9223372036854775808 ≤ z) (h2 : z < 9223372036854775808) : z.bmod (2 ^ 64) = z := by
  rw [Int.bmod_eq_of_le (by omega) (by omega)]
theorem jL_add {a b : Int64} {x y : Int} (ha : a.toInt = x) (hb : b.toInt = y) (h1 : -9223372036854775808 ≤ x + y) (h2 : x + y < 9223372036854775808) : (a + b).toInt = x + y := by rw [Int64.toInt_add, ha, hb, jL_bmod h1 h2]
theorem jL_sub {a b : Int64} {x y : Int} (ha : a.toInt = x) (hb : b.toInt = y) (h1 : -9223372036854775808 ≤ x - y) (h2 : x - y < 9223372036854775808) : (a - b).toInt = x - y := by rw [Int64.toInt_sub, ha, hb, jL_bmod h1 h2]
theorem jL_mul {a b : Int64} {x y : Int} (ha : a.toInt = x) (hb : b.toInt = y) (h1 : -9223372036854775808 ≤ x * y) (h2 : x * y < 9223372036854775808) : (a * b).toInt = x * y := by rw [Int64.toInt_mul, ha, hb, jL_bmod h1 h2]
theorem jI_divle {a b : Int32} {x y : Int} (ha : a.toInt = x) (hb : b.toInt = y) (h1 : 0 ≤ x) (h2 : 0 < y) : 0 ≤ (a / b).toInt ∧ (a / b).toInt ≤ x := by
  rw [jI_div ha hb h1 h2]
  exact ⟨Int.ediv_nonneg h1 (by omega), Int.ediv_le_self y h1⟩
theorem jI_rem {a b : Int32} {x y : Int} (ha : a.toInt = x) (hb : b.toInt = y) (h1 : 0 ≤ x) (h2 : 1 ≤ y) : 0 ≤ (a - a / b * b).toInt ∧ (a - a / b * b).toInt < y := by
  have h3 : x < 2147483648 := by rw [← ha]; exact Int32.toInt_lt a
  have hd := jI_div ha hb h1 (by omega)
  have e1 : y * (x / y) ≤ x := Int.mul_ediv_self_le (by omega)
  have e2 : x < y * (x / y) + y := by
    have := Int.lt_mul_ediv_self_add (x := x) (k := y) (by omega)
    exact this
  have e0 : 0 ≤ x / y := Int.ediv_nonneg h1 (by omega)
  have e3 : x / y * y = y * (x / y) := Int.mul_comm _ _
  have hm : (a / b * b).toInt = x / y * y := jI_mul hd hb (by rw [e3]; have := Int.mul_nonneg (show 0 ≤ y by omega) e0; omega) (by rw [e3]; omega)
  have h0 := Int.mul_nonneg (show 0 ≤ y by omega) e0
  rw [jI_sub ha hm (by rw [e3]; omega) (by rw [e3]; omega), e3]
  omega
theorem jI_mask (x : Int32) {m : Int32} (k : Nat) (hm : m.toBitVec.toNat = 2 ^ k - 1) (hk : k ≤ 30) : 0 ≤ (x &&& m).toInt ∧ (x &&& m).toInt ≤ m.toInt := by
  obtain ⟨j, hj, e⟩ := pk_andE x k hm
  have h2 : (2 : Nat) ^ k ≤ 2 ^ 30 := Nat.pow_le_pow_right (by omega) hk
  have hmI : m = nI (2 ^ k - 1) := by
    apply Int32.toBitVec_inj.mp
    apply BitVec.eq_of_toNat_eq
    rw [hm, pk_tn (by omega)]
  have h1 : 1 ≤ (2 : Nat) ^ k := Nat.one_le_two_pow
  rw [e, nI_toInt (by omega), hmI, nI_toInt (by omega)]
  omega
theorem jI_mulb {a b : Int32} {x y : Int} {lx hx ly hy : Int} (ha : a.toInt = x) (hb : b.toInt = y) (h1 : lx ≤ x) (h2 : x ≤ hx) (h3 : ly ≤ y) (h4 : y ≤ hy) (h5 : 0 ≤ lx ∧ 0 ≤ ly) (h6 : hx * hy < 2147483648) : (a * b).toInt = x * y ∧ lx * ly ≤ (a * b).toInt ∧ (a * b).toInt ≤ hx * hy := by
  have e0 : lx * ly ≤ x * y := Int.mul_le_mul h1 h3 (by omega) (by omega)
  have e1 : x * y ≤ hx * hy := Int.mul_le_mul h2 h4 (by omega) (by omega)
  have e2 : 0 ≤ x * y := Int.mul_nonneg (by omega) (by omega)
  rw [jI_mul ha hb (by omega) (by omega)]
  exact ⟨rfl, e0, e1⟩
theorem jI_nn {x : Int32} (h : 0 ≤ x.toInt) : ¬ x < 0 := fun q => by
  have := jI_lt q rfl (show (0 : Int32).toInt = 0 by decide)
  omega
theorem jlook2 {x : Int32} {d o1 o2 : Int} (h : ¬ x.toInt = 0 ∧ ¬ x.toInt = 1) : Op.lookupswitch.offset [(0, o1), (1, o2)] d x.toInt = d := by
  have a1 : ¬ (0 : Int) = x.toInt := by omega
  have a2 : ¬ (1 : Int) = x.toInt := by omega
  have a3 : ¬ x.toInt = (0 : Int) := by omega
  have a4 : ¬ x.toInt = (1 : Int) := by omega
  simp [Op.lookupswitch.offset, a1, a2, a3, a4]
/-- the slots of the cells from b on -/
def ssum (b : Nat) (H : Heap) : Nat := ((H.toList.drop b).map (fun (c : Cell) => c.slots.size)).sum
section KNOW
variable {p : Program} {l : Launch} {e : Env} {R : Room} {s : State} {m : MethodId} {args : Array Value} {below : List Frame} {meth : Method} {c : Code} {H : Heap} {locs : List Loc} {cells slots : Nat} {Q : State → Prop}
theorem W.know {g : JFrame} (k : H.size ≤ s.heap.size + cells → ssum s.heap.size H ≤ slots → W p l e R s m args below meth c H locs cells slots Q g) : W p l e R s m args below meth c H locs cells slots Q g := by
  intro T hT X
  have h1 := X.heapSize
  have h2 : ssum s.heap.size T.heap ≤ slots := X.same.2.2.2.2.1
  rw [hT] at h1 h2
  exact k h1 h2 T hT X
theorem W.tight {g : JFrame} {cells' slots' : Nat} (h1 : H.size ≤ s.heap.size + cells') (h2 : ssum s.heap.size H ≤ slots') (k : W p l e R s m args below meth c H locs cells' slots' Q g) : W p l e R s m args below meth c H locs cells slots Q g := by
  intro T hT X
  obtain ⟨a1, a2, a3, a4, a5, a6⟩ := X.same
  exact k T hT { X with same := ⟨a1, a2, by rw [show (T.setVm s.vm).heap = T.heap from rfl, hT]; exact h1, a4, by rw [show (T.setVm s.vm).heap = T.heap from rfl, hT]; exact h2, a6⟩ }
end KNOW
theorem ssum_chain {b : Nat} {H H1 : Heap} (hb : b ≤ H.size) (hz : H.size ≤ H1.size) (hk : ∀ q : Nat, b ≤ q → q < H.size → H1[q]? = H[q]?) : ssum b H1 = ssum b H + ssum H.size H1 := by
  have e : H1.toList.drop b = H.toList.drop b ++ H1.toList.drop H.size := by
    apply List.ext_getElem?
    intro i
    by_cases hi : i < H.size - b
    · rw [List.getElem?_append_left (by simp; omega)]
      simp only [List.getElem?_drop, Array.getElem?_toList]
      exact hk (b + i) (by omega) (by omega)
    · rw [List.getElem?_append_right (by simp; omega)]
      simp only [List.getElem?_drop, Array.getElem?_toList, List.length_drop, Array.length_toList]
      congr 1
      omega
  unfold ssum
  rw [e, List.map_append, List.sum_append]
