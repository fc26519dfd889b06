
theorem ty_q {D : va_G} {cl : List vw_C} {tys : List (ClassId × FieldType)} {s : State} {c1 c2 : ClassId} {ty : FieldType} (hK : va_K D cl tys s) (i j : Nat) (hi : tys[i]? = some (c1, ty)) (hj : tys[j]? = some (c2, ty)) : c1 = c2 := by
  have h1 : va_RA s c1 ty := (hK.2 i _ hi).2
  have h2 : va_RA s c2 ty := (hK.2 j _ hj).2
  cases ty with
  | object C =>
    obtain ⟨-, -, -, -, -, h1⟩ := h1
    obtain ⟨-, -, -, -, -, h2⟩ := h2
    exact Option.some.inj (h1.symm.trans h2)
  | _ => exact Option.some.inj (Eq.trans (Eq.symm (show s.vm.findClass _ = some c1 from h1)) (show s.vm.findClass _ = some c2 from h2))
theorem va_P_fun {D : va_G} {cl : List vw_C} {ws : va_W} {H : Heap} {k a n : Nat} {cA : ClassId} {f g : Nat → Int32} (hP : va_P D cl ws H) (hk : ws[k]? = some (a, .inl (cA, n, .inl f))) (h : ∀ j : Nat, j < n → f j = g j) : va_P D cl (ws.set k (a, .inl (cA, n, .inl g))) H := by
  have e : vp_cell cA (n, .inl f) = vp_cell cA (n, .inl g) := by
    show arrV cA n (fun j => .int (f j)) = arrV cA n (fun j => .int (g j))
    unfold arrV
    congr 2
    funext j
    exact congrArg Value.int (h j.val j.isLt)
  intro i q hq
  by_cases hik : i = k
  · subst hik
    have hl := (List.getElem?_eq_some_iff.mp hk).1
    rw [List.getElem?_set_self hl] at hq
    cases hq
    have h0 : H[a]? = some (vp_cell cA (n, .inl f)) := hP i _ hk
    rw [e] at h0
    exact h0
  · rw [List.getElem?_set_ne (Ne.symm hik)] at hq
    exact hP i q hq
theorem nw_on : ∀ w ∈ nw_all, w.onTables = true := by decide +kernel
def st_fw (i : Nat) : List Cond := Cond.exactly (.string RX2 (sidx i)) "java/lang/String" :: Cond.eq (.field (.string RX2 (sidx i)) "java/lang/String" "coder" "B") (.int 0) :: Cond.arrayOf (.field (.string RX2 (sidx i)) "java/lang/String" "value" "[B") .byte :: Cond.eq (.length (.field (.string RX2 (sidx i)) "java/lang/String" "value" "[B")) (.int (Int32.ofNat (slen i))) :: (List.range (slen i)).map (fun j => Cond.eq (.elem (.field (.string RX2 (sidx i)) "java/lang/String" "value" "[B") (.int (Int32.ofNat j))) (.int ((sbyt i).getD j 0)))
def st_fp (i : Nat) : List Nat := ([[222, 223, 224, 225, 226], [242, 243, 244, 245, 246], [185, 186, 187, 188, 189], [203, 204, 205, 206, 207], [165, 166, 167, 168, 169, 170, 171, 172], [9, 10, 11, 12, 13], [14, 15, 16, 17, 18], [112, 113, 114, 115, 116, 117, 118, 119], [129, 130, 131, 132, 133, 134], [145, 146, 147, 148, 149, 150, 151, 152, 153], [20, 21, 22, 23, 24, 25, 26, 27, 28], [31, 32, 33, 34, 35, 36, 37, 38], [42, 43, 44, 45, 46, 47, 48], [53, 54, 55, 56, 57, 58, 59, 60, 61], [67, 68, 69, 70, 71, 72, 73], [80, 81, 82, 83, 84, 85, 86, 87, 88], [96, 97, 98, 99, 100, 101, 102, 103]] : List (List Nat)).getD i []
theorem st_fe : ∀ i, i < 17 → st_fw i = (st_fp i).filterMap (fun k => (flatC (Jvm.Cond.and given_1 narrow_1))[k]?) := by decide +kernel
theorem st_flat : ∀ i, i < 17 → Cond.exactly (.string RX2 (sidx i)) "java/lang/String" ∈ flatC (Jvm.Cond.and given_1 narrow_1) ∧ Cond.eq (.field (.string RX2 (sidx i)) "java/lang/String" "coder" "B") (.int 0) ∈ flatC (Jvm.Cond.and given_1 narrow_1) ∧ Cond.arrayOf (.field (.string RX2 (sidx i)) "java/lang/String" "value" "[B") .byte ∈ flatC (Jvm.Cond.and given_1 narrow_1) ∧ Cond.eq (.length (.field (.string RX2 (sidx i)) "java/lang/String" "value" "[B")) (.int (Int32.ofNat (slen i))) ∈ flatC (Jvm.Cond.and given_1 narrow_1) ∧ ∀ j, j < slen i → Cond.eq (.elem (.field (.string RX2 (sidx i)) "java/lang/String" "value" "[B") (.int (Int32.ofNat j))) (.int ((sbyt i).getD j 0)) ∈ flatC (Jvm.Cond.and given_1 narrow_1) := by
  intro i hi
  have h := mem_pl (st_fp i) (st_fe i hi)
  exact ⟨h _ (List.Mem.head _), h _ (List.Mem.tail _ (List.Mem.head _)), h _ (List.Mem.tail _ (List.Mem.tail _ (List.Mem.head _))), h _ (List.Mem.tail _ (List.Mem.tail _ (List.Mem.tail _ (List.Mem.head _)))), fun j hj => h _ (List.Mem.tail _ (List.Mem.tail _ (List.Mem.tail _ (List.Mem.tail _ (List.mem_map.mpr ⟨j, List.mem_range.mpr hj, rfl⟩)))))⟩
theorem st_tbl : ∀ i, i < 17 → Cond.stringRef RX2 (sidx i) (stx i) ∈ tables_1 := by decide +kernel
theorem st_start {args : Array Value} {s : State} (hgv : (Jvm.Cond.and given_1 narrow_1).before args s = true) (hts : ∀ w ∈ lw_tbl, w.before args s = true) (hN : nw_ok s) : ∃ adK adV : Nat → Nat, st_ok adK adV (fun q : Nat => s.heap.size ≤ q) s := by
  have hs := flat_of_before _ hgv
  have hA : ∀ a : Nat, a < s.heap.size → ¬ (fun q : Nat => s.heap.size ≤ q) a := fun a h => Nat.not_le.mpr h
  have h0 : ∀ i : Nat, ∃ q : Nat × Nat, i < 17 → (Term.string RX2 (sidx i)).eval args s none [] s = some (.ref q.1) ∧ va_O "java/lang/String" q.1 (fun q : Nat => s.heap.size ≤ q) s s.heap ∧ va_OF "java/lang/String" "coder" "B" (.int 0) q.1 (fun q : Nat => s.heap.size ≤ q) s s.heap ∧ va_OF "java/lang/String" "value" "[B" (.ref q.2) q.1 (fun q : Nat => s.heap.size ≤ q) s s.heap ∧ va_T .byte q.2 (slen i) (fun j => .int ((sbyt i).getD j 0)) (fun q : Nat => s.heap.size ≤ q) s s.heap := by
    intro i
    by_cases hi : i < 17
    · obtain ⟨m1, m2, m3, m4, m5⟩ := st_flat i hi
      have hl := slen_pos i hi
      obtain ⟨a, c, cA, kA, q1, q2, q3, q4, q5, q6, -⟩ := Cond.exactly_spec (args := args) (first := s) (o := none) (s := s) (idx := []) (t := .string RX2 (sidx i)) (cls := "java/lang/String") (hs _ m1)
      obtain ⟨t, ht, hT⟩ := va_Tof (N := slen i) (f := fun j => .int ((sbyt i).getD j 0)) (A := fun q : Nat => s.heap.size ≤ q) (by omega) (hs _ m3) (va_eqt (hs _ m4)) (fun j hj => va_eqt (hs _ (m5 j hj))) hA
      exact ⟨(a, t), fun _ => ⟨q1, ⟨cA, q3, q5, by rw [q6]; exact q2, hA a (Array.getElem?_eq_some_iff.mp q3).1⟩, vk_OFof q1 (va_eqt (hs _ m2)) hA, vk_OFof q1 ht hA, hT⟩⟩
    · exact ⟨(0, 0), fun h => absurd h hi⟩
  obtain ⟨ad, had⟩ := Classical.axiomOfChoice h0
  refine ⟨fun i => (ad i).1, fun i => (ad i).2, hN, fun i hi => vk_R.of (hts (.stringRef RX2 (sidx i) (stx i)) (List.mem_append_right _ (st_tbl i hi))) (had i hi).1, fun i hi => (had i hi).2, va_Zof (hts (.laysStatic "java/lang/String" "COMPACT_STRINGS" "Z") (List.mem_append_right _ (by decide +kernel))) (hts (.initialized "java/lang/String") (List.mem_append_right _ (by decide +kernel))) (va_eqi (hs _ (by decide +kernel))) hA, va_Zqof (hts (.laysStatic "jdk/internal/util/Preconditions" "SIOOBE_FORMATTER" "Ljava/util/function/BiFunction;") (List.mem_append_right _ (by decide +kernel))) (hts (.initialized "jdk/internal/util/Preconditions") (List.mem_append_right _ (by decide +kernel))) (hs _ (by decide +kernel)) hA⟩
