theorem dX2_read_0 : decode cX2_read 0 = .ok (.aload_n 0, 1) := by decide +kernel
theorem dX2_read_1 : decode cX2_read 1 = .ok (.iconst 0, 1) := by decide +kernel
theorem dX2_read_2 : decode cX2_read 2 = .ok (.putfield 21, 3) := by decide +kernel
theorem dX2_read_5 : decode cX2_read 5 = .ok (.aload_n 0, 1) := by decide +kernel
theorem dX2_read_6 : decode cX2_read 6 = .ok (.iconst 0, 1) := by decide +kernel
theorem dX2_read_7 : decode cX2_read 7 = .ok (.putfield 25, 3) := by decide +kernel
theorem dX2_read_10 : decode cX2_read 10 = .ok (.aload_n 0, 1) := by decide +kernel
theorem dX2_read_11 : decode cX2_read 11 = .ok (.iload_n 1, 1) := by decide +kernel
theorem dX2_read_12 : decode cX2_read 12 = .ok (.putfield 28, 3) := by decide +kernel
theorem dX2_read_15 : decode cX2_read 15 = .ok (.aload_n 0, 1) := by decide +kernel
theorem dX2_read_16 : decode cX2_read 16 = .ok (.iconst (-1), 1) := by decide +kernel
theorem dX2_read_17 : decode cX2_read 17 = .ok (.putfield 31, 3) := by decide +kernel
theorem dX2_read_20 : decode cX2_read 20 = .ok (.aload_n 0, 1) := by decide +kernel
theorem dX2_read_21 : decode cX2_read 21 = .ok (.iconst 0, 1) := by decide +kernel
theorem dX2_read_22 : decode cX2_read 22 = .ok (.putfield 34, 3) := by decide +kernel
theorem dX2_read_25 : decode cX2_read 25 = .ok (.aload_n 0, 1) := by decide +kernel
theorem dX2_read_26 : decode cX2_read 26 = .ok (.iconst 0, 1) := by decide +kernel
theorem dX2_read_27 : decode cX2_read 27 = .ok (.putfield 37, 3) := by decide +kernel
theorem dX2_read_30 : decode cX2_read 30 = .ok (.aload_n 0, 1) := by decide +kernel
set_option maxRecDepth 20000 in
theorem ggX2_read_X2_advance : GoodIn wsX2_read wsX2_advance := goodIn_r _ [13, 2, 7, 8, 14, 15, 16, 17, 18, 19, 20, 12, 21, 22, 23, 24, 25, 142, 143, 144, 145, 146, 147, 148, 149, 150, 151, 152] (by decide +kernel) (by decide +kernel)
set_option maxRecDepth 20000 in
theorem gX2_read_X2_advance : GoodIn wsX2_read (wsV RX2 41 RX2 yX2_advance wsX2_advance) := goodIn_app (goodIn_of _ (by decide +kernel)) ggX2_read_X2_advance
theorem dX2_read_31 : decode cX2_read 31 = .ok (.invokevirtual 41, 3) := by decide +kernel
theorem dX2_read_34 : decode cX2_read 34 = .ok (.aload_n 0, 1) := by decide +kernel
theorem dX2_read_35 : decode cX2_read 35 = .ok (.iconst 0, 1) := by decide +kernel
set_option maxRecDepth 20000 in
theorem ggX2_read_X2_readSum : GoodIn wsX2_read wsX2_readSum := goodIn_r _ [29, 30, 31, 32, 12, 33, 34, 35, 36, 2, 7, 8, 37, 38, 39, 40, 41, 42, 43, 44, 45, 46, 47, 48, 49, 50, 51, 52, 53, 54, 55, 56, 57, 58, 59, 60, 61, 62, 63, 64, 65, 66, 67, 68, 69, 70, 71, 72, 73, 74, 75, 76, 77, 78, 79, 80, 81, 82, 83, 84, 85, 9, 10, 11, 13, 14, 15, 16, 17, 18, 19, 20, 21, 22, 23, 24, 25, 86, 87, 88, 89, 1, 90, 91, 92, 93, 94, 95, 96, 97, 98, 99, 100, 101, 102, 103, 104, 3, 105, 106, 107, 108, 5, 109, 110, 111, 112, 113, 114, 115, 116, 117, 4, 118, 119, 120, 121, 122, 123, 124, 125, 126, 127, 128, 6, 129, 130, 131, 132, 133, 26, 27, 28, 134, 135, 136, 137, 138, 139, 140, 141, 142, 143, 144, 145, 146, 147, 148, 149, 150, 151, 152, 153, 154, 155, 156] (by decide +kernel) (by decide +kernel)
set_option maxRecDepth 20000 in
theorem gX2_read_X2_readSum : GoodIn wsX2_read (wsV RX2 44 RX2 yX2_readSum wsX2_readSum) := goodIn_app (goodIn_of _ (by decide +kernel)) ggX2_read_X2_readSum
theorem dX2_read_36 : decode cX2_read 36 = .ok (.invokevirtual 44, 3) := by decide +kernel
theorem dX2_read_39 : decode cX2_read 39 = .ok (.ifCond .eq 22, 3) := by decide +kernel
theorem dX2_read_61 : decode cX2_read 61 = .ok (.aload_n 0, 1) := by decide +kernel
theorem dX2_read_62 : decode cX2_read 62 = .ok (.getfield 31, 3) := by decide +kernel
theorem dX2_read_65 : decode cX2_read 65 = .ok (.ireturn, 1) := by decide +kernel
theorem dX2_read_42 : decode cX2_read 42 = .ok (.aload_n 0, 1) := by decide +kernel
theorem dX2_read_43 : decode cX2_read 43 = .ok (.getfield 48, 3) := by decide +kernel
theorem dX2_read_46 : decode cX2_read 46 = .ok (.aload_n 0, 1) := by decide +kernel
theorem dX2_read_47 : decode cX2_read 47 = .ok (.getfield 17, 3) := by decide +kernel
theorem dX2_read_50 : decode cX2_read 50 = .ok (.getfield 51, 3) := by decide +kernel
theorem dX2_read_53 : decode cX2_read 53 = .ok (.if_icmp .ge 8, 3) := by decide +kernel
theorem dX2_read_56 : decode cX2_read 56 = .ok (.aload_n 0, 1) := by decide +kernel
set_option maxRecDepth 20000 in
theorem ggX2_read_X2_stop : GoodIn wsX2_read wsX2_stop := goodIn_r _ [117, 7, 4, 142, 143, 144, 145, 146, 147, 148, 149, 150] (by decide +kernel) (by decide +kernel)
set_option maxRecDepth 20000 in
theorem gX2_read_X2_stop : GoodIn wsX2_read (wsV RX2 54 RX2 yX2_stop wsX2_stop) := goodIn_app (goodIn_of _ (by decide +kernel)) ggX2_read_X2_stop
theorem dX2_read_57 : decode cX2_read 57 = .ok (.invokevirtual 54, 3) := by decide +kernel
theorem dX2_read_60 : decode cX2_read 60 = .ok (.pop, 1) := by decide +kernel
theorem dX2_stepsRead_0 : decode cX2_stepsRead 0 = .ok (.aload_n 0, 1) := by decide +kernel
theorem dX2_stepsRead_1 : decode cX2_stepsRead 1 = .ok (.getfield 21, 3) := by decide +kernel
theorem dX2_stepsRead_4 : decode cX2_stepsRead 4 = .ok (.anewarray 9, 3) := by decide +kernel
theorem dX2_stepsRead_7 : decode cX2_stepsRead 7 = .ok (.astore_n 1, 1) := by decide +kernel
theorem dX2_stepsRead_8 : decode cX2_stepsRead 8 = .ok (.iconst 0, 1) := by decide +kernel
theorem dX2_stepsRead_9 : decode cX2_stepsRead 9 = .ok (.istore_n 2, 1) := by decide +kernel
theorem dX2_stepsRead_10 : decode cX2_stepsRead 10 = .ok (.iload_n 2, 1) := by decide +kernel
theorem dX2_stepsRead_11 : decode cX2_stepsRead 11 = .ok (.aload_n 0, 1) := by decide +kernel
theorem dX2_stepsRead_12 : decode cX2_stepsRead 12 = .ok (.getfield 21, 3) := by decide +kernel
theorem dX2_stepsRead_15 : decode cX2_stepsRead 15 = .ok (.if_icmp .ge 18, 3) := by decide +kernel
theorem dX2_stepsRead_33 : decode cX2_stepsRead 33 = .ok (.aload_n 1, 1) := by decide +kernel
theorem dX2_stepsRead_34 : decode cX2_stepsRead 34 = .ok (.areturn, 1) := by decide +kernel
theorem dX2_stepsRead_18 : decode cX2_stepsRead 18 = .ok (.aload_n 1, 1) := by decide +kernel
theorem dX2_stepsRead_19 : decode cX2_stepsRead 19 = .ok (.iload_n 2, 1) := by decide +kernel
theorem dX2_stepsRead_20 : decode cX2_stepsRead 20 = .ok (.aload_n 0, 1) := by decide +kernel
theorem dX2_stepsRead_21 : decode cX2_stepsRead 21 = .ok (.getfield 11, 3) := by decide +kernel
theorem dX2_stepsRead_24 : decode cX2_stepsRead 24 = .ok (.iload_n 2, 1) := by decide +kernel
theorem dX2_stepsRead_25 : decode cX2_stepsRead 25 = .ok (.aaload, 1) := by decide +kernel
theorem dX2_stepsRead_26 : decode cX2_stepsRead 26 = .ok (.aastore, 1) := by decide +kernel
theorem dX2_stepsRead_27 : decode cX2_stepsRead 27 = .ok (.iinc 2 1, 3) := by decide +kernel
theorem dX2_stepsRead_30 : decode cX2_stepsRead 30 = .ok (.goto (-20), 3) := by decide +kernel
theorem dX6_init_0 : decode cX6_init 0 = .ok (.aload_n 0, 1) := by decide +kernel
theorem dX6_init_1 : decode cX6_init 1 = .ok (.invokespecial 3, 3) := by decide +kernel
theorem dX6_init_4 : decode cX6_init 4 = .ok (.aload_n 0, 1) := by decide +kernel
theorem dX6_init_5 : decode cX6_init 5 = .ok (.bipush 20, 2) := by decide +kernel
theorem dX6_init_7 : decode cX6_init 7 = .ok (.newarray .long, 2) := by decide +kernel
theorem dX6_init_9 : decode cX6_init 9 = .ok (.putfield 9, 3) := by decide +kernel
theorem dX6_init_12 : decode cX6_init 12 = .ok (.aload_n 0, 1) := by decide +kernel
theorem dX6_init_13 : decode cX6_init 13 = .ok (.bipush 20, 2) := by decide +kernel
theorem dX6_init_15 : decode cX6_init 15 = .ok (.newarray .int, 2) := by decide +kernel
theorem dX6_init_17 : decode cX6_init 17 = .ok (.putfield 15, 3) := by decide +kernel
theorem dX6_init_20 : decode cX6_init 20 = .ok (.aload_n 0, 1) := by decide +kernel
theorem dX6_init_21 : decode cX6_init 21 = .ok (.ldc2_w 19, 3) := by decide +kernel
theorem dX6_init_24 : decode cX6_init 24 = .ok (.putfield 21, 3) := by decide +kernel
theorem dX6_init_27 : decode cX6_init 27 = .ok (.aload_n 0, 1) := by decide +kernel
theorem dX6_init_28 : decode cX6_init 28 = .ok (.ldc2_w 25, 3) := by decide +kernel
theorem dX6_init_31 : decode cX6_init 31 = .ok (.putfield 27, 3) := by decide +kernel
theorem dX6_init_34 : decode cX6_init 34 = .ok (.aload_n 0, 1) := by decide +kernel
theorem dX6_init_35 : decode cX6_init 35 = .ok (.ldc 30, 2) := by decide +kernel
theorem dX6_init_37 : decode cX6_init 37 = .ok (.putfield 31, 3) := by decide +kernel
theorem dX6_init_40 : decode cX6_init 40 = .ok (.aload_n 0, 1) := by decide +kernel
theorem dX6_init_41 : decode cX6_init 41 = .ok (.aload_n 1, 1) := by decide +kernel
theorem dX6_init_42 : decode cX6_init 42 = .ok (.putfield 35, 3) := by decide +kernel
theorem dX6_init_45 : decode cX6_init 45 = .ok (.aload_n 0, 1) := by decide +kernel
theorem dX6_init_46 : decode cX6_init 46 = .ok (.iload_n 2, 1) := by decide +kernel
theorem dX6_init_47 : decode cX6_init 47 = .ok (.putfield 39, 3) := by decide +kernel
theorem dX6_init_50 : decode cX6_init 50 = .ok (.aload_n 0, 1) := by decide +kernel
theorem dX6_init_51 : decode cX6_init 51 = .ok (.getfield 9, 3) := by decide +kernel
theorem dX6_init_54 : decode cX6_init 54 = .ok (.ldc2_w 42, 3) := by decide +kernel
set_option maxRecDepth 20000 in
theorem ggX6_init_J7_fill_d0a16 : GoodIn wsX6_init wsJ7_fill_d0a16 := goodIn_r _ [20] (by decide +kernel) (by decide +kernel)
set_option maxRecDepth 20000 in
theorem gX6_init_J7_fill_d0a16 : GoodIn wsX6_init (va_wsS RX6 44 yJ7_fill_d0a16 wsJ7_fill_d0a16) := goodIn_app (goodIn_of _ (by decide +kernel)) ggX6_init_J7_fill_d0a16
theorem dX6_init_57 : decode cX6_init 57 = .ok (.invokestatic 44, 3) := by decide +kernel
theorem dX6_init_60 : decode cX6_init 60 = .ok (.aload_n 0, 1) := by decide +kernel
theorem dX6_init_61 : decode cX6_init 61 = .ok (.getfield 15, 3) := by decide +kernel
theorem dX6_init_64 : decode cX6_init 64 = .ok (.iconst (-1), 1) := by decide +kernel
set_option maxRecDepth 20000 in
theorem ggX6_init_J7_fill_53178 : GoodIn wsX6_init wsJ7_fill_53178 := goodIn_r _ [23] (by decide +kernel) (by decide +kernel)
set_option maxRecDepth 20000 in
theorem gX6_init_J7_fill_53178 : GoodIn wsX6_init (va_wsS RX6 50 yJ7_fill_53178 wsJ7_fill_53178) := goodIn_app (goodIn_of _ (by decide +kernel)) ggX6_init_J7_fill_53178
theorem dX6_init_65 : decode cX6_init 65 = .ok (.invokestatic 50, 3) := by decide +kernel
theorem dX6_init_68 : decode cX6_init 68 = .ok (.return_, 1) := by decide +kernel
/-! a trait is made: its cells join the pool -/
theorem cp_step {g g' gS : Nat → Option Nat} {i i' : Int32} {a : Nat} (h : ∀ j : Nat, (j : Int) < i.toInt → g j = gS j) (eg : g' = va_up g i.toNatClampNeg (some a)) (ha : gS i.toNatClampNeg = some a) (h0 : 0 ≤ i.toInt) (hi : i'.toInt = i.toInt + 1) : ∀ j : Nat, (j : Int) < i'.toInt → g' j = gS j := by
  intro j hj
  have e : i.toNatClampNeg = i.toInt.toNat := rfl
  rw [eg]
  by_cases q : j = i.toNatClampNeg
  · subst q; rw [va_up_self, ha]
  · rw [va_up_ne _ _ q]; exact h j (by omega)
theorem stq_all {z' : Int} {g g' : Nat → Option Nat} {L0 L : List Nat} {f fm : Nat → va_E} (h : stq (Int32.toInt 0) z' g g' L f) (hm : ∀ a, a ∈ L → fm a = f a) : ∀ j : Nat, (j : Int) < z' → ∃ a, g' j = some a ∧ stepOk (L0 ++ L) fm a := by
  intro j hj
  have z : (0 : Int32).toInt = 0 := by decide
  obtain ⟨a, h1, h2⟩ := h.2.2.1 j (by rw [z]; omega) hj
  exact ⟨a, h1, step_sub h2 (fun w => List.mem_append_right _ w) (hm a h2.1)⟩
theorem steps_ext {cA : Nat → ClassId} {L L' : List Nat} {f f' : Nat → va_E} {s : Nat} (h : stepsOk cA L f s) (he : ∀ a, a ∈ L → a ∈ L' ∧ f' a = f a) : stepsOk cA L' f' s := by
  obtain ⟨h1, n, g, h2, h3, h4⟩ := h
  refine ⟨(he s h1).1, n, g, (he s h1).2.trans h2, h3, fun j hj => ?_⟩
  obtain ⟨a, w1, w2⟩ := h4 j hj
  exact ⟨a, w1, step_sub w2 (fun w => (he a w).1) (he a w2.1).2⟩
theorem trait_ext {cA : Nat → ClassId} {L L' : List Nat} {f f' : Nat → va_E} {t : Nat} {nd sl : Int32} (h : traitOk cA L f t nd sl) (he : ∀ a, a ∈ L → a ∈ L' ∧ f' a = f a) : traitOk cA L' f' t nd sl := by
  obtain ⟨h1, s, v, m, lf, lt, hl, h2, h3, h4, ⟨kv, h5⟩, h6, ⟨km, h7⟩⟩ := h
  exact ⟨(he t h1).1, s, v, m, lf, lt, hl, (he t h1).2.trans h2, steps_ext h3 he, (he v h4).1, ⟨kv, (he v h4).2.trans h5⟩, (he m h6).1, ⟨km, (he m h6).2.trans h7⟩⟩
theorem TP_ext {cA : Nat → ClassId} {n : Int32} {fTr : Nat → Option Nat} {L L' : List Nat} {f f' : Nat → va_E} {nd sl : Nat → Int32} (h : TP cA n fTr L f nd sl) (he : ∀ a, a ∈ L → a ∈ L' ∧ f' a = f a) : TP cA n fTr L' f' nd sl := by
  refine ⟨fun k hk => ?_, h.2⟩
  obtain ⟨t, h1, h2⟩ := h.1 k hk
  exact ⟨t, h1, trait_ext h2 he⟩
theorem TP_new {cA : Nat → ClassId} {n n' : Int32} {fTr fTr' : Nat → Option Nat} {L L' : List Nat} {f f' : Nat → va_E} {nd sl : Nat → Int32} {t : Nat} {ndx slx : Int32} (h : TP cA n fTr L f nd sl) (h0 : 0 ≤ n.toInt) (hn : n'.toInt = n.toInt + 1) (eT : fTr' = va_up fTr n.toNatClampNeg (some t)) (he : ∀ a, a ∈ L → a ∈ L' ∧ f' a = f a) (hnt : t ∉ L) (hok : traitOk cA L' f' t ndx slx) : TP cA n' fTr' L' f' (upd nd n.toNatClampNeg ndx) (upd sl n.toNatClampNeg slx) := by
  have e0 : n.toNatClampNeg = n.toInt.toNat := rfl
  have hx := TP_ext h he
  have old : ∀ k : Nat, (k : Int) < n.toInt → fTr' k = fTr k := fun k hk => by rw [eT, va_up_ne _ _ (by omega)]
  have new : fTr' n.toNatClampNeg = some t := by rw [eT, va_up_self]
  have nin : ∀ k : Nat, (k : Int) < n.toInt → fTr k ≠ some t := by
    intro k hk q
    obtain ⟨t', w1, w2⟩ := h.1 k hk
    exact hnt (by rw [q] at w1; rw [Option.some.inj w1]; exact w2.1)
  refine ⟨fun k hk => ?_, fun i j hi hj e => ?_⟩
  · by_cases q : k = n.toNatClampNeg
    · subst q
      rw [pk_us, pk_us]
      exact ⟨t, new, hok⟩
    · rw [pk_un q, pk_un q, old k (by omega)]
      exact hx.1 k (by omega)
  · by_cases qi : i = n.toNatClampNeg
    · by_cases qj : j = n.toNatClampNeg
      · rw [qi, qj]
      · exfalso
        rw [qi, new, old j (by omega)] at e
        exact nin j (by omega) e.symm
    · by_cases qj : j = n.toNatClampNeg
      · exfalso
        rw [qj, new, old i (by omega)] at e
        exact nin i (by omega) e
      · rw [old i (by omega), old j (by omega)] at e
        exact h.2 i j (by omega) (by omega) e
theorem pl_add4 {D : va_G} {cl : List vw_C} {A : Nat → Prop} {X : va_W} {L : List Nat} {f : Nat → va_E} {H : Heap} {t s v m : Nat} {eT eS eV eM : va_E} (hP : va_P D cl ((X ++ [(t, eT), (s, eS), (v, eV), (m, eM)]) ++ va_pl L f) H) (hD : va_D A ((X ++ [(t, eT), (s, eS), (v, eV), (m, eM)]) ++ va_pl L f)) : ∃ f' : Nat → va_E, (∀ a, a ∈ L → a ∈ L ++ [t, s, v, m] ∧ f' a = f a) ∧ (f' t = eT ∧ f' s = eS ∧ f' v = eV ∧ f' m = eM) ∧ t ∉ L ∧ va_P D cl (X ++ va_pl (L ++ [t, s, v, m]) f') H ∧ va_D A (X ++ va_pl (L ++ [t, s, v, m]) f') := by
  have hn := (va_D_nd.mp hD).1
  rw [List.map_append, List.map_append] at hn
  obtain ⟨h1, -, h2⟩ := List.nodup_append.mp hn
  obtain ⟨-, h3, -⟩ := List.nodup_append.mp h1
  simp only [List.map_cons, List.map_nil, List.nodup_cons, List.mem_cons, List.not_mem_nil, or_false, not_or] at h3
  obtain ⟨⟨q1, q2, q3⟩, ⟨q4, q5⟩, q6, -⟩ := h3
  have hL : ∀ a, a ∈ L → a ∈ (va_pl L f).map Prod.fst := fun a ha => by unfold va_pl; rw [List.map_map]; exact List.mem_map.mpr ⟨a, ha, rfl⟩
  have hno : ∀ b, b ∈ ([(t, eT), (s, eS), (v, eV), (m, eM)] : va_W).map Prod.fst → b ∉ L := fun b hb hbL => h2 b (List.mem_append_right _ hb) b (hL b hbL) rfl
  have other : ∀ {a b : Nat}, b ∉ L → a ∈ L → ¬ a = b := fun h1 h2 q => h1 (by rw [← q]; exact h2)
  have nt : t ∉ L := hno t (by simp)
  have ns : s ∉ L := hno s (by simp)
  have nv : v ∉ L := hno v (by simp)
  have nm : m ∉ L := hno m (by simp)
  refine ⟨fun a => if a = t then eT else if a = s then eS else if a = v then eV else if a = m then eM else f a, fun a ha => ⟨List.mem_append_left _ ha, ?_⟩, ⟨?_, ?_, ?_, ?_⟩, nt, ?_⟩
  · show (if a = t then eT else if a = s then eS else if a = v then eV else if a = m then eM else f a) = f a
    rw [if_neg (other nt ha), if_neg (other ns ha), if_neg (other nv ha), if_neg (other nm ha)]
  · show (if t = t then eT else _) = eT
    rw [if_pos rfl]
  · show (if s = t then eT else if s = s then eS else _) = eS
    rw [if_neg (Ne.symm q1), if_pos rfl]
  · show (if v = t then eT else if v = s then eS else if v = v then eV else _) = eV
    rw [if_neg (Ne.symm q2), if_neg (Ne.symm q4), if_pos rfl]
  · show (if m = t then eT else if m = s then eS else if m = v then eV else if m = m then eM else _) = eM
    rw [if_neg (Ne.symm q3), if_neg (Ne.symm q5), if_neg (Ne.symm q6), if_pos rfl]
  · have e : va_pl (L ++ [t, s, v, m]) (fun a => if a = t then eT else if a = s then eS else if a = v then eV else if a = m then eM else f a) = va_pl L f ++ [(t, eT), (s, eS), (v, eV), (m, eM)] := by
      unfold va_pl
      rw [List.map_append]
      congr 1
      · apply List.map_congr_left
        intro a ha
        show (a, (if a = t then eT else if a = s then eS else if a = v then eV else if a = m then eM else f a)) = (a, f a)
        rw [if_neg (other nt ha), if_neg (other ns ha), if_neg (other nv ha), if_neg (other nm ha)]
      · simp only [List.map_cons, List.map_nil, if_true]
        rw [if_neg (Ne.symm q1), if_neg (Ne.symm q2), if_neg (Ne.symm q4), if_neg (Ne.symm q3), if_neg (Ne.symm q5), if_neg (Ne.symm q6)]
    rw [e]
    have hp : (X ++ (va_pl L f ++ [(t, eT), (s, eS), (v, eV), (m, eM)])).Perm ((X ++ [(t, eT), (s, eS), (v, eV), (m, eM)]) ++ va_pl L f) := by
      rw [List.append_assoc]
      exact List.Perm.append_left _ List.perm_append_comm
    exact ⟨va_P_mem hP (fun q hq => hp.mem_iff.mp hq), va_D_perm hD hp⟩
theorem jnb_int {N : Nat} (h : N ≤ 100000) : N * componentBytes .int ≤ 536870912 := by
  have e : componentBytes .int = 4 := rfl
  rw [e]; omega
theorem jnb_boolean {N : Nat} (h : N ≤ 100000) : N * componentBytes .boolean ≤ 536870912 := by
  have e : componentBytes .boolean = 1 := rfl
  rw [e]; omega
theorem jnb_byte {N : Nat} (h : N ≤ 100000) : N * componentBytes .byte ≤ 536870912 := by
  have e : componentBytes .byte = 1 := rfl
  rw [e]; omega
theorem jnb_long {N : Nat} (h : N ≤ 100000) : N * componentBytes .long ≤ 536870912 := by
  have e : componentBytes .long = 8 := rfl
  rw [e]; omega
theorem jnew_int (N : Nat) : ∀ cA : ClassId, vp_cell cA (N, .inl (fun _ => 0)) = arrV cA N (fun _ => defaultValue .int) := fun _ => rfl
theorem jnew_boolean (N : Nat) : ∀ cA : ClassId, vp_cell cA (N, .inl (fun _ => 0)) = arrV cA N (fun _ => defaultValue .boolean) := fun _ => rfl
theorem jnew_byte (N : Nat) : ∀ cA : ClassId, vp_cell cA (N, .inl (fun _ => 0)) = arrV cA N (fun _ => defaultValue .byte) := fun _ => rfl
theorem jnew_long (N : Nat) : ∀ cA : ClassId, vp_cell cA (N, .inr (.inl (fun _ => 0))) = arrV cA N (fun _ => defaultValue .long) := fun _ => rfl

set_option maxHeartbeats 8000000 in
set_option maxRecDepth 100000 in
theorem k_X2_read (l : Launch) (dC : Nat → ClassId) (dI : Nat → Nat → Nat) (cA : Nat → ClassId) (sz : Nat) (ax : Nat → Nat) (xSz : Int32) (xPl : Int32) (xBe : Int32) (xRt : Int32) (xRf : Int32) (xRd : Int32) (xLk : Int32) (xTz : Int32) (gB : Nat → Int32) (gSt : Nat → Option Nat) (n : Int32) (adK : Nat → Nat) (adV : Nat → Nat) (i_xSz : 0 ≤ xSz.toInt ∧ xSz.toInt ≤ 200) (i_xPl : 0 ≤ xPl.toInt ∧ xPl.toInt ≤ 200) (i_xBe : 0 ≤ xBe.toInt ∧ xBe.toInt ≤ 200) (i_xRt : 0 ≤ xRt.toInt ∧ xRt.toInt ≤ 20) (i_xTz : 0 ≤ xTz.toInt ∧ xTz.toInt ≤ 200) (i_gB : inB 0 255 200 gB) (hn : 0 ≤ n.toInt ∧ n.toInt ≤ 20) : Met l yX2_read wsX2_read ({ frames := 91, cells := 200, slots := 800, locals := 2004 }) (va_Pc [.ref (ax 13), .int n] (fun U => U.heap.size = sz ∧ va_P (dC, dI) vwCl [((ax 13), .inr (2, [.ref (ax 11), .ref (ax 14), .int xSz, .int xPl, .int xBe, .int xRt, .int xRf, .int xRd, .int xLk])), ((ax 11), .inr (5, [.ref (ax 12), .int xTz])), ((ax 12), .inl (cA 0, 200, .inl gB)), ((ax 14), .inl (cA 4, 200, .inr (.inr (.inr (.inr gSt)))))] U.heap ∧ va_K (dC, dI) vwCl (tyL cA) U ∧ va_D (fun _ => True) [((ax 13), .inr (2, [.ref (ax 11), .ref (ax 14), .int xSz, .int xPl, .int xBe, .int xRt, .int xRf, .int xRd, .int xLk])), ((ax 11), .inr (5, [.ref (ax 12), .int xTz])), ((ax 12), .inl (cA 0, 200, .inl gB)), ((ax 14), .inl (cA 4, 200, .inr (.inr (.inr (.inr gSt)))))] ∧ st_ok adK adV (va_A [((ax 13), .inr (2, [.ref (ax 11), .ref (ax 14), .int xSz, .int xPl, .int xBe, .int xRt, .int xRf, .int xRd, .int xLk])), ((ax 11), .inr (5, [.ref (ax 12), .int xTz])), ((ax 12), .inl (cA 0, 200, .inl gB)), ((ax 14), .inl (cA 4, 200, .inr (.inr (.inr (.inr gSt)))))] sz) U)) (va_Qi (fun (r : Int32) (u : Int32 × Int32 × Int32 × Int32 × Int32 × Int32 × (Nat → Option Nat) × Int32 × (List Nat) × (Nat → va_E)) => (0 ≤ u.1.toInt ∧ u.1.toInt ≤ 200) ∧ (0 ≤ u.2.1.toInt ∧ u.2.1.toInt ≤ 200) ∧ (0 ≤ u.2.2.1.toInt ∧ u.2.2.1.toInt ≤ 200) ∧ (0 ≤ u.2.2.2.2.2.2.2.1.toInt ∧ u.2.2.2.2.2.2.2.1.toInt ≤ 20) ∧ (stq (Int32.toInt 0) u.1.toInt gSt u.2.2.2.2.2.2.1 u.2.2.2.2.2.2.2.2.1 u.2.2.2.2.2.2.2.2.2) ∧ (rs u.2.2.2.1 u.2.1 u.2.2.1 u.2.2.2.2.2.1 u.2.2.2.2.1 = pread (tpe gB xTz) xTz.toInt n.toInt) ∧ (r.toInt = u.2.2.2.1.toInt ∧ (-1) ≤ r.toInt)) (fun (u : Int32 × Int32 × Int32 × Int32 × Int32 × Int32 × (Nat → Option Nat) × Int32 × (List Nat) × (Nat → va_E)) (t : State) => va_P (dC, dI) vwCl (([((ax 13), .inr (2, [.ref (ax 11), .ref (ax 14), .int u.1, .int u.2.1, .int u.2.2.1, .int u.2.2.2.2.2.2.2.1, .int u.2.2.2.1, .int u.2.2.2.2.1, .int u.2.2.2.2.2.1])), ((ax 11), .inr (5, [.ref (ax 12), .int xTz])), ((ax 12), .inl (cA 0, 200, .inl gB)), ((ax 14), .inl (cA 4, 200, .inr (.inr (.inr (.inr u.2.2.2.2.2.2.1)))))] : va_W) ++ va_pl u.2.2.2.2.2.2.2.2.1 u.2.2.2.2.2.2.2.2.2) t.heap ∧ va_D (va_A [((ax 13), .inr (2, [.ref (ax 11), .ref (ax 14), .int xSz, .int xPl, .int xBe, .int xRt, .int xRf, .int xRd, .int xLk])), ((ax 11), .inr (5, [.ref (ax 12), .int xTz])), ((ax 12), .inl (cA 0, 200, .inl gB)), ((ax 14), .inl (cA 4, 200, .inr (.inr (.inr (.inr gSt)))))] sz) (([((ax 13), .inr (2, [.ref (ax 11), .ref (ax 14), .int u.1, .int u.2.1, .int u.2.2.1, .int u.2.2.2.2.2.2.2.1, .int u.2.2.2.1, .int u.2.2.2.2.1, .int u.2.2.2.2.2.1])), ((ax 11), .inr (5, [.ref (ax 12), .int xTz])), ((ax 12), .inl (cA 0, 200, .inl gB)), ((ax 14), .inl (cA 4, 200, .inr (.inr (.inr (.inr u.2.2.2.2.2.2.1)))))] : va_W) ++ va_pl u.2.2.2.2.2.2.2.2.1 u.2.2.2.2.2.2.2.2.2)) (va_A [((ax 13), .inr (2, [.ref (ax 11), .ref (ax 14), .int xSz, .int xPl, .int xBe, .int xRt, .int xRf, .int xRd, .int xLk])), ((ax 11), .inr (5, [.ref (ax 12), .int xTz])), ((ax 12), .inl (cA 0, 200, .inl gB)), ((ax 14), .inl (cA 4, 200, .inr (.inr (.inr (.inr gSt)))))] sz)) 200 800 (va_A [((ax 13), .inr (2, [.ref (ax 11), .ref (ax 14), .int xSz, .int xPl, .int xBe, .int xRt, .int xRf, .int xRd, .int xLk])), ((ax 11), .inr (5, [.ref (ax 12), .int xTz])), ((ax 12), .inl (cA 0, 200, .inl gB)), ((ax 14), .inl (cA 4, 200, .inr (.inr (.inr (.inr gSt)))))] sz) := by
  refine Met.ofW (cc := cX2_read) (maxL := 2) (ret := (some .int)) (by decide) rfl ?_
  intro p e s m args below meth c s₁ B hml hv
  obtain ⟨rfl, hsz, hP, hK, hD0, hN⟩ := hv
  have hx := B.exec
  have hb := B.bytes
  have hr := B.returns
  have hts := atoms_spec (ws := wsX2_read) B.pre
  have hown : s.vm.findClass RX2 = some m.cls := findClass_of_methodNamed B.named
  have hlocks := B.notSynchronized
  subst hsz
  have hD := hD0.self (sz := s.heap.size)
  generalize hAe : va_A [((ax 13), .inr (2, [.ref (ax 11), .ref (ax 14), .int xSz, .int xPl, .int xBe, .int xRt, .int xRf, .int xRd, .int xLk])), ((ax 11), .inr (5, [.ref (ax 12), .int xTz])), ((ax 12), .inl (cA 0, 200, .inl gB)), ((ax 14), .inl (cA 4, 200, .inr (.inr (.inr (.inr gSt)))))] s.heap.size = A at hD hN ⊢
  have hSt := hN
  have hN := hSt.1
  have hA : ∀ q : Nat, s.heap.size ≤ q → A q := fun q h => by rw [← hAe]; exact Or.inr h
  have hS : va_S A s.heap s.heap [] := va_S.rf
  have hlt0 : (ax 13) < s.heap.size := (hP 0 _ rfl).lt
  have hlt1 : (ax 11) < s.heap.size := (hP 1 _ rfl).lt
  have hlt2 : (ax 12) < s.heap.size := (hP 2 _ rfl).lt
  have hlt3 : (ax 14) < s.heap.size := (hP 3 _ rfl).lt
  obtain ⟨pfz, hpfz⟩ : ∃ f : Nat → va_E, f = fun _ => .inr (0, []) := ⟨_, rfl⟩
  replace hP : va_P (dC, dI) vwCl (([((ax 13), .inr (2, [.ref (ax 11), .ref (ax 14), .int xSz, .int xPl, .int xBe, .int xRt, .int xRf, .int xRd, .int xLk])), ((ax 11), .inr (5, [.ref (ax 12), .int xTz])), ((ax 12), .inl (cA 0, 200, .inl gB)), ((ax 14), .inl (cA 4, 200, .inr (.inr (.inr (.inr gSt)))))] : va_W) ++ va_pl ([]) pfz) s.heap := hP
  replace hD : va_D A (([((ax 13), .inr (2, [.ref (ax 11), .ref (ax 14), .int xSz, .int xPl, .int xBe, .int xRt, .int xRf, .int xRd, .int xLk])), ((ax 11), .inr (5, [.ref (ax 12), .int xTz])), ((ax 12), .inl (cA 0, 200, .inl gB)), ((ax 14), .inl (cA 4, 200, .inr (.inr (.inr (.inr gSt)))))] : va_W) ++ va_pl ([]) pfz) := hD
  have hIX2 : ∀ w ∈ u_ws RX2 TX2 9, w ∈ wsX2_read := by decide +kernel
  have hIX5 : ∀ w ∈ u_ws RX5 TX5 2, w ∈ wsX2_read := by decide +kernel
  have hl := lv_entry ([.ref (ax 13), .int n]) (n := 2) (Nat.le_of_ble_eq_true rfl)
  rw [lg_entry_eq]
  generalize (lg_sl ([.ref (ax 13), .int n]) ++ List.replicate (2 - (lg_sl ([.ref (ax 13), .int n])).length) Slot.unset).toArray = ls at hl ⊢
  have hl : lv_has ls 2 [(0, .ref (ax 13)), (1, .int n)] := hl
  generalize hQe : MQ below _ _ _ _ _ _ = QQ
  refine lv_aload_n hx hb dX2_read_0 rfl (lv_at hl 0 rfl) ?_
  refine lv_iconst (v := 0) hx hb dX2_read_1 (by decide) ?_
  refine va_put (D := (dC, dI)) (ci := 2) (v := .int 0) (ty := .int) (C := RX2) (T := TX2) (N := 9) hx hb hts hIX2 tyX2 tyX2_ok nmX2 hown hK hP hD hS 0 rfl rfl 2 (by decide) (hts (.fieldLink RX2 21 "TraitHouse$Reader" "size" "I") (by decide +kernel)) (fun _ h9 => h9) rfl (by decide +kernel) rfl rfl (Nat.le_of_ble_eq_true rfl) dX2_read_2 (fun H locs hP hD hS => ?_)
  replace hP : va_P (dC, dI) vwCl (([((ax 13), .inr (2, [.ref (ax 11), .ref (ax 14), .int 0, .int xPl, .int xBe, .int xRt, .int xRf, .int xRd, .int xLk])), ((ax 11), .inr (5, [.ref (ax 12), .int xTz])), ((ax 12), .inl (cA 0, 200, .inl gB)), ((ax 14), .inl (cA 4, 200, .inr (.inr (.inr (.inr gSt)))))] : va_W) ++ va_pl ([]) pfz) H := hP
  replace hD : va_D A (([((ax 13), .inr (2, [.ref (ax 11), .ref (ax 14), .int 0, .int xPl, .int xBe, .int xRt, .int xRf, .int xRd, .int xLk])), ((ax 11), .inr (5, [.ref (ax 12), .int xTz])), ((ax 12), .inl (cA 0, 200, .inl gB)), ((ax 14), .inl (cA 4, 200, .inr (.inr (.inr (.inr gSt)))))] : va_W) ++ va_pl ([]) pfz) := hD
  refine lv_aload_n hx hb dX2_read_5 rfl (lv_at hl 0 rfl) ?_
  refine lv_iconst (v := 0) hx hb dX2_read_6 (by decide) ?_
  refine va_put (D := (dC, dI)) (ci := 2) (v := .int 0) (ty := .int) (C := RX2) (T := TX2) (N := 9) hx hb hts hIX2 tyX2 tyX2_ok nmX2 hown hK hP hD hS 0 rfl rfl 4 (by decide) (hts (.fieldLink RX2 25 "TraitHouse$Reader" "behind" "I") (by decide +kernel)) (fun _ h9 => h9) rfl (by decide +kernel) rfl rfl (Nat.le_of_ble_eq_true rfl) dX2_read_7 (fun H locs hP hD hS => ?_)
  replace hP : va_P (dC, dI) vwCl (([((ax 13), .inr (2, [.ref (ax 11), .ref (ax 14), .int 0, .int xPl, .int 0, .int xRt, .int xRf, .int xRd, .int xLk])), ((ax 11), .inr (5, [.ref (ax 12), .int xTz])), ((ax 12), .inl (cA 0, 200, .inl gB)), ((ax 14), .inl (cA 4, 200, .inr (.inr (.inr (.inr gSt)))))] : va_W) ++ va_pl ([]) pfz) H := hP
  replace hD : va_D A (([((ax 13), .inr (2, [.ref (ax 11), .ref (ax 14), .int 0, .int xPl, .int 0, .int xRt, .int xRf, .int xRd, .int xLk])), ((ax 11), .inr (5, [.ref (ax 12), .int xTz])), ((ax 12), .inl (cA 0, 200, .inl gB)), ((ax 14), .inl (cA 4, 200, .inr (.inr (.inr (.inr gSt)))))] : va_W) ++ va_pl ([]) pfz) := hD
  refine lv_aload_n hx hb dX2_read_10 rfl (lv_at hl 0 rfl) ?_
  refine lv_iload_n hx hb dX2_read_11 rfl (lv_at hl 1 rfl) ?_
  refine va_put (D := (dC, dI)) (ci := 2) (v := .int n) (ty := .int) (C := RX2) (T := TX2) (N := 9) hx hb hts hIX2 tyX2 tyX2_ok nmX2 hown hK hP hD hS 0 rfl rfl 5 (by decide) (hts (.fieldLink RX2 28 "TraitHouse$Reader" "traitsThere" "I") (by decide +kernel)) (fun _ h9 => h9) rfl (by decide +kernel) rfl rfl (Nat.le_of_ble_eq_true rfl) dX2_read_12 (fun H locs hP hD hS => ?_)
  replace hP : va_P (dC, dI) vwCl (([((ax 13), .inr (2, [.ref (ax 11), .ref (ax 14), .int 0, .int xPl, .int 0, .int n, .int xRf, .int xRd, .int xLk])), ((ax 11), .inr (5, [.ref (ax 12), .int xTz])), ((ax 12), .inl (cA 0, 200, .inl gB)), ((ax 14), .inl (cA 4, 200, .inr (.inr (.inr (.inr gSt)))))] : va_W) ++ va_pl ([]) pfz) H := hP
  replace hD : va_D A (([((ax 13), .inr (2, [.ref (ax 11), .ref (ax 14), .int 0, .int xPl, .int 0, .int n, .int xRf, .int xRd, .int xLk])), ((ax 11), .inr (5, [.ref (ax 12), .int xTz])), ((ax 12), .inl (cA 0, 200, .inl gB)), ((ax 14), .inl (cA 4, 200, .inr (.inr (.inr (.inr gSt)))))] : va_W) ++ va_pl ([]) pfz) := hD
  refine lv_aload_n hx hb dX2_read_15 rfl (lv_at hl 0 rfl) ?_
  refine lv_iconst (v := (-1)) hx hb dX2_read_16 (by decide) ?_
  refine va_put (D := (dC, dI)) (ci := 2) (v := .int (-1)) (ty := .int) (C := RX2) (T := TX2) (N := 9) hx hb hts hIX2 tyX2 tyX2_ok nmX2 hown hK hP hD hS 0 rfl rfl 6 (by decide) (hts (.fieldLink RX2 31 "TraitHouse$Reader" "fault" "I") (by decide +kernel)) (fun _ h9 => h9) rfl (by decide +kernel) rfl rfl (Nat.le_of_ble_eq_true rfl) dX2_read_17 (fun H locs hP hD hS => ?_)
  replace hP : va_P (dC, dI) vwCl (([((ax 13), .inr (2, [.ref (ax 11), .ref (ax 14), .int 0, .int xPl, .int 0, .int n, .int (-1), .int xRd, .int xLk])), ((ax 11), .inr (5, [.ref (ax 12), .int xTz])), ((ax 12), .inl (cA 0, 200, .inl gB)), ((ax 14), .inl (cA 4, 200, .inr (.inr (.inr (.inr gSt)))))] : va_W) ++ va_pl ([]) pfz) H := hP
  replace hD : va_D A (([((ax 13), .inr (2, [.ref (ax 11), .ref (ax 14), .int 0, .int xPl, .int 0, .int n, .int (-1), .int xRd, .int xLk])), ((ax 11), .inr (5, [.ref (ax 12), .int xTz])), ((ax 12), .inl (cA 0, 200, .inl gB)), ((ax 14), .inl (cA 4, 200, .inr (.inr (.inr (.inr gSt)))))] : va_W) ++ va_pl ([]) pfz) := hD
  refine lv_aload_n hx hb dX2_read_20 rfl (lv_at hl 0 rfl) ?_
  refine lv_iconst (v := 0) hx hb dX2_read_21 (by decide) ?_
  refine va_put (D := (dC, dI)) (ci := 2) (v := .int 0) (ty := .int) (C := RX2) (T := TX2) (N := 9) hx hb hts hIX2 tyX2 tyX2_ok nmX2 hown hK hP hD hS 0 rfl rfl 7 (by decide) (hts (.fieldLink RX2 34 "TraitHouse$Reader" "reads" "I") (by decide +kernel)) (fun _ h9 => h9) rfl (by decide +kernel) rfl rfl (Nat.le_of_ble_eq_true rfl) dX2_read_22 (fun H locs hP hD hS => ?_)
  replace hP : va_P (dC, dI) vwCl (([((ax 13), .inr (2, [.ref (ax 11), .ref (ax 14), .int 0, .int xPl, .int 0, .int n, .int (-1), .int 0, .int xLk])), ((ax 11), .inr (5, [.ref (ax 12), .int xTz])), ((ax 12), .inl (cA 0, 200, .inl gB)), ((ax 14), .inl (cA 4, 200, .inr (.inr (.inr (.inr gSt)))))] : va_W) ++ va_pl ([]) pfz) H := hP
  replace hD : va_D A (([((ax 13), .inr (2, [.ref (ax 11), .ref (ax 14), .int 0, .int xPl, .int 0, .int n, .int (-1), .int 0, .int xLk])), ((ax 11), .inr (5, [.ref (ax 12), .int xTz])), ((ax 12), .inl (cA 0, 200, .inl gB)), ((ax 14), .inl (cA 4, 200, .inr (.inr (.inr (.inr gSt)))))] : va_W) ++ va_pl ([]) pfz) := hD
  refine lv_aload_n hx hb dX2_read_25 rfl (lv_at hl 0 rfl) ?_
  refine lv_iconst (v := 0) hx hb dX2_read_26 (by decide) ?_
  refine va_put (D := (dC, dI)) (ci := 2) (v := .int 0) (ty := .boolean) (C := RX2) (T := TX2) (N := 9) hx hb hts hIX2 tyX2 tyX2_ok nmX2 hown hK hP hD hS 0 rfl rfl 8 (by decide) (hts (.fieldLink RX2 37 "TraitHouse$Reader" "leaks" "Z") (by decide +kernel)) (fun _ h9 => h9) rfl (by decide +kernel) rfl rfl (Nat.le_of_ble_eq_true rfl) dX2_read_27 (fun H locs hP hD hS => ?_)
  replace hP : va_P (dC, dI) vwCl (([((ax 13), .inr (2, [.ref (ax 11), .ref (ax 14), .int 0, .int xPl, .int 0, .int n, .int (-1), .int 0, .int 0])), ((ax 11), .inr (5, [.ref (ax 12), .int xTz])), ((ax 12), .inl (cA 0, 200, .inl gB)), ((ax 14), .inl (cA 4, 200, .inr (.inr (.inr (.inr gSt)))))] : va_W) ++ va_pl ([]) pfz) H := hP
  replace hD : va_D A (([((ax 13), .inr (2, [.ref (ax 11), .ref (ax 14), .int 0, .int xPl, .int 0, .int n, .int (-1), .int 0, .int 0])), ((ax 11), .inr (5, [.ref (ax 12), .int xTz])), ((ax 12), .inl (cA 0, 200, .inl gB)), ((ax 14), .inl (cA 4, 200, .inr (.inr (.inr (.inr gSt)))))] : va_W) ++ va_pl ([]) pfz) := hD
  refine lv_aload_n hx hb dX2_read_30 rfl (lv_at hl 0 rfl) ?_
  have hk_1 : (0 : Int32).toInt = 0 := by decide
  have hk_2 : ((-1) : Int32).toInt = (-1) := by decide
  obtain ⟨hPc, hDc, hFc, hCc⟩ := va_pre (ws' := [((ax 13), .inr (2, [.ref (ax 11), .ref (ax 14), .int 0, .int xPl, .int 0, .int n, .int (-1), .int 0, .int 0])), ((ax 11), .inr (5, [.ref (ax 12), .int xTz])), ((ax 12), .inl (cA 0, 200, .inl gB))]) hP hD hS hA [0, 1, 2] (by decide) rfl
  refine va_callv (va_runV (As := []) (rest := []) ⟨hx, hb, hml, hown, hts⟩ (k_X2_advance l dC dI cA H.size ax 0 xPl 0 n (-1) 0 0 xTz gB (by omega) i_xPl (by omega) hn i_xTz i_gB (by omega)) (cwV 0 hts gX2_read_X2_advance rfl rfl rfl (by decide +kernel) ⟨Nat.le_of_ble_eq_true rfl, Nat.le_of_ble_eq_true rfl⟩) ⟨fun a U g mk q => by obtain ⟨q0, q1, qP, qK, qD, qN⟩ := q; exact ⟨q0, q1, qP, va_K.moved (u := U) (U := U.calling g mk a) (Vm.Alike.refl U.vm) qK, qD, qN.same rfl⟩, va_recv hK hPc (ci := 2) (q0 := 0) rfl rfl, fun U hU hW => ⟨rfl, by rw [hU], by rw [hU]; exact hPc, va_K.moved hW.alike hK, hDc.weaken (fun _ _ _ _ => trivial), hN.warm hW⟩⟩ rfl rfl hl.1 rfl (lv_room (Nat.le_of_ble_eq_true rfl)) dX2_read_31 ⟨Nat.le_of_ble_eq_true rfl, Nat.le_of_ble_eq_true rfl⟩) hS (fun q _ h => hFc q h) hFc (fun u_3 t H1 locs ht hvm hw_4 hB hz1 hk1 hS => ?_)
  obtain ⟨w_5, w_6⟩ := u_3
  try dsimp only at hw_4 hB
  obtain ⟨iv_7, iv_8, po_9, tk_10, ad_11⟩ := hw_4
  obtain ⟨hP1, hD1⟩ := hB
  rw [ht] at hP1
  obtain ⟨hP, hD⟩ := va_joinQ (wr := [((ax 14), .inl (cA 4, 200, .inr (.inr (.inr (.inr gSt)))))]) (w1 := [((ax 13), .inr (2, [.ref (ax 11), .ref (ax 14), .int 0, .int w_5, .int w_6, .int n, .int (-1), .int 0, .int 0])), ((ax 11), .inr (5, [.ref (ax 12), .int xTz])), ((ax 12), .inl (cA 0, 200, .inl gB))]) hP hD [0, 1, 2] [3] rfl rfl (by decide) (by decide) hk1 hFc hP1 hD1
  clear hz1
  generalize H1 = H at hP hS ⊢
  replace hP : va_P (dC, dI) vwCl (([((ax 14), .inl (cA 4, 200, .inr (.inr (.inr (.inr gSt))))), ((ax 13), .inr (2, [.ref (ax 11), .ref (ax 14), .int 0, .int w_5, .int w_6, .int n, .int (-1), .int 0, .int 0])), ((ax 11), .inr (5, [.ref (ax 12), .int xTz])), ((ax 12), .inl (cA 0, 200, .inl gB))] : va_W) ++ va_pl ([]) pfz) H := hP
  replace hD : va_D A (([((ax 14), .inl (cA 4, 200, .inr (.inr (.inr (.inr gSt))))), ((ax 13), .inr (2, [.ref (ax 11), .ref (ax 14), .int 0, .int w_5, .int w_6, .int n, .int (-1), .int 0, .int 0])), ((ax 11), .inr (5, [.ref (ax 12), .int xTz])), ((ax 12), .inl (cA 0, 200, .inl gB))] : va_W) ++ va_pl ([]) pfz) := hD
  refine lv_aload_n hx hb dX2_read_34 rfl (lv_at hl 0 rfl) ?_
  refine lv_iconst (v := 0) hx hb dX2_read_35 (by decide) ?_
  have hk_12 : (0 : Int32).toInt = 0 := by decide
  have hk_13 : ((-1) : Int32).toInt = (-1) := by decide
  obtain ⟨hPc, hDc, hFc, hCc⟩ := va_pre (ws' := [((ax 13), .inr (2, [.ref (ax 11), .ref (ax 14), .int 0, .int w_5, .int w_6, .int n, .int (-1), .int 0, .int 0])), ((ax 11), .inr (5, [.ref (ax 12), .int xTz])), ((ax 12), .inl (cA 0, 200, .inl gB)), ((ax 14), .inl (cA 4, 200, .inr (.inr (.inr (.inr gSt)))))]) hP hD hS hA [1, 2, 3, 0] (by decide) rfl
  refine W.know (fun hkn1 hkn2 => ?_)
  have hS0 := hS.1
  refine va_calli (va_runV (As := [.int 0]) (rest := []) ⟨hx, hb, hml, hown, hts⟩ (xsum_all l dC dI cA 8 H.size ax 0 w_5 w_6 n (-1) 0 0 xTz gB gSt adK adV 0 (by omega) iv_7 iv_8 hn i_xTz i_gB (by omega) tk_10 (by omega) (by omega) (by omega)) (cwV 1 hts gX2_read_X2_readSum rfl rfl rfl (by decide +kernel) ⟨(show 90 + 1 ≤ 91 by omega), (show 8 + (5 + 11) + 1980 ≤ 2004 by omega)⟩) ⟨fun a U g mk q => by obtain ⟨q0, q1, qP, qK, qD, qN⟩ := q; exact ⟨q0, q1, qP, va_K.moved (u := U) (U := U.calling g mk a) (Vm.Alike.refl U.vm) qK, qD, qN.same rfl rfl⟩, va_recv hK hPc (ci := 2) (q0 := 0) rfl rfl, fun U hU hW => ⟨rfl, by rw [hU], by rw [hU]; exact hPc, va_K.moved hW.alike hK, hDc.weaken (fun _ _ _ _ => trivial), hSt.call hS hU hW hFc⟩⟩ rfl rfl hl.1 rfl (lv_room (Nat.le_of_ble_eq_true rfl)) dX2_read_36 ⟨(show 0 + ((200 - (0 : Int32).toInt).toNat) ≤ 200 by omega), (show 0 + (4 * (200 - (0 : Int32).toInt).toNat) ≤ 800 by omega)⟩) hS (fun q _ h => hFc q h) hFc (fun r_14 u_15 t H1 locs ht hvm hw_16 hB hz1 hk1 hS => ?_)
  obtain ⟨w_17, w_18, w_19, w_20, w_21, w_22, w_23, w_24, w_25⟩ := u_15
  try dsimp only at hw_16 hB
  obtain ⟨iv_26, iv_27, iv_28, po_29, tk_30, st_31, rs_32, rf_33⟩ := hw_16
  try simp only [hk_12] at po_29 tk_30 st_31 rs_32 rf_33
  obtain ⟨hP1, hD1, hX1⟩ := hB
  rw [ht] at hP1 hX1
  obtain ⟨hP, hD⟩ := va_joinQ (wr := []) (w1 := ([((ax 13), .inr (2, [.ref (ax 11), .ref (ax 14), .int w_17, .int w_18, .int w_19, .int n, .int w_20, .int w_21, .int w_22])), ((ax 11), .inr (5, [.ref (ax 12), .int xTz])), ((ax 12), .inl (cA 0, 200, .inl gB)), ((ax 14), .inl (cA 4, 200, .inr (.inr (.inr (.inr w_23)))))] : va_W) ++ va_pl w_24 w_25) hP hD [1, 2, 3, 0] [] rfl rfl (by decide) (by decide) hk1 hFc hP1 hD1
  obtain ⟨fm_34, hma_fm_34, hmb_fm_34, hP, hD⟩ := pl_merge hP hD
  have sq_fm_34 := stq_tr stq_0 st_31 hma_fm_34 hmb_fm_34
  have hle_fm_34 := sq_fm_34.1
  have hlf_fm_34 := st_31.1
  refine W.widen (k := 200) (n := 800) (by omega) (by omega) ?_
  clear hz1
  generalize H1 = H at hP hS ⊢
  replace hP : va_P (dC, dI) vwCl (([((ax 13), .inr (2, [.ref (ax 11), .ref (ax 14), .int w_17, .int w_18, .int w_19, .int n, .int w_20, .int w_21, .int w_22])), ((ax 11), .inr (5, [.ref (ax 12), .int xTz])), ((ax 12), .inl (cA 0, 200, .inl gB)), ((ax 14), .inl (cA 4, 200, .inr (.inr (.inr (.inr w_23)))))] : va_W) ++ va_pl ([] ++ w_24) fm_34) H := hP
  replace hD : va_D A (([((ax 13), .inr (2, [.ref (ax 11), .ref (ax 14), .int w_17, .int w_18, .int w_19, .int n, .int w_20, .int w_21, .int w_22])), ((ax 11), .inr (5, [.ref (ax 12), .int xTz])), ((ax 12), .inl (cA 0, 200, .inl gB)), ((ax 14), .inl (cA 4, 200, .inr (.inr (.inr (.inr w_23)))))] : va_W) ++ va_pl ([] ++ w_24) fm_34) := hD
  refine lv_if_eq (tgt := 61) hx hb dX2_read_39 (by decide) (fun c_35 => ?_) (fun c_35 => ?_)
  · have dc_35 : r_14.toInt = 0 := jI_eq c_35 rfl (by decide)
    refine lv_aload_n hx hb dX2_read_61 rfl (lv_at hl 0 rfl) ?_
    refine va_get (D := (dC, dI)) (ci := 2) (v := .int w_20) (C := RX2) (T := TX2) (N := 9) hx hb hts hIX2 hown hK hP 0 rfl rfl 6 (by decide) (hts (.fieldLink RX2 31 "TraitHouse$Reader" "fault" "I") (by decide +kernel)) (fun _ h9 => h9) rfl dX2_read_62 ?_
    have hP9 := hP.part (cx := [((ax 13), .inr (2, [.ref (ax 11), .ref (ax 14), .int w_17, .int w_18, .int w_19, .int n, .int w_20, .int w_21, .int w_22])), ((ax 11), .inr (5, [.ref (ax 12), .int xTz])), ((ax 12), .inl (cA 0, 200, .inl gB)), ((ax 14), .inl (cA 4, 200, .inr (.inr (.inr (.inr w_23)))))]) [0, 1, 2, 3] rfl
    have hD9 := hD.part (cx := [((ax 13), .inr (2, [.ref (ax 11), .ref (ax 14), .int w_17, .int w_18, .int w_19, .int n, .int w_20, .int w_21, .int w_22])), ((ax 11), .inr (5, [.ref (ax 12), .int xTz])), ((ax 12), .inl (cA 0, 200, .inl gB)), ((ax 14), .inl (cA 4, 200, .inr (.inr (.inr (.inr w_23)))))]) [0, 1, 2, 3] (by decide) rfl
    subst hQe
    refine W.widen (k := 200) (n := 800) (Nat.le_of_ble_eq_true rfl) (Nat.le_of_ble_eq_true rfl) ?_
    have hans : (w_20 : Int32).toInt = w_20.toInt := rfl
    have hpost : (0 ≤ w_17.toInt ∧ w_17.toInt ≤ 200) ∧ (0 ≤ w_18.toInt ∧ w_18.toInt ≤ 200) ∧ (0 ≤ w_19.toInt ∧ w_19.toInt ≤ 200) ∧ (0 ≤ n.toInt ∧ n.toInt ≤ 20) ∧ (stq (Int32.toInt 0) w_17.toInt gSt w_23 ([] ++ w_24) fm_34) ∧ (rs w_20 w_18 w_19 w_22 w_21 = pread (tpe gB xTz) xTz.toInt n.toInt) ∧ ((w_20 : Int32).toInt = w_20.toInt ∧ (-1) ≤ (w_20 : Int32).toInt) := ⟨iv_26, iv_27, iv_28, hn, sq_fm_34, (by have z9 : (0 : Int32).toInt = 0 := (by decide); have s9 : rs w_20 w_18 w_19 w_22 w_21 = psum (tpe gB xTz) xTz.toInt n.toInt (pB (tpe gB xTz) xTz.toInt n.toInt 8) (sk (tpe gB xTz) 0) (tke (tpe gB xTz) xTz.toInt (sk (tpe gB xTz) 0)) 0 0 := (by have h1 := ad_11; have h2 := rs_32; (try rw [z9] at h1); (try rw [z9] at h2); rw [← h1.2, ← h1.1]; exact h2); rw [pread, bnd_no s9 (by omega)]; exact rs_inl (by omega) (by omega)), ⟨rfl, by omega⟩⟩
    exact W.iret (v := w_20) hx hb hr (fun t ht hW => ⟨⟨w_20, (w_17, w_18, w_19, w_20, w_21, w_22, w_23, n, ([] ++ w_24), fm_34), rfl, hpost, by rw [ht]; exact hP9, hD9⟩, hS.F ht⟩) hS.2.2 dX2_read_65
  · have dc_35 : ¬ r_14.toInt = 0 := jI_ne c_35 rfl (by decide)
    refine lv_aload_n hx hb dX2_read_42 rfl (lv_at hl 0 rfl) ?_
    refine va_get (D := (dC, dI)) (ci := 2) (v := .int w_18) (C := RX2) (T := TX2) (N := 9) hx hb hts hIX2 hown hK hP 0 rfl rfl 3 (by decide) (hts (.fieldLink RX2 48 "TraitHouse$Reader" "place" "I") (by decide +kernel)) (fun _ h9 => h9) rfl dX2_read_43 ?_
    refine lv_aload_n hx hb dX2_read_46 rfl (lv_at hl 0 rfl) ?_
    refine va_get (D := (dC, dI)) (ci := 2) (v := .ref (ax 11)) (C := RX2) (T := TX2) (N := 9) hx hb hts hIX2 hown hK hP 0 rfl rfl 0 (by decide) (hts (.fieldLink RX2 17 "TraitHouse$Reader" "tape" "LTraitHouse$Tape;") (by decide +kernel)) (fun _ h9 => h9) rfl dX2_read_47 ?_
    refine va_getN (D := (dC, dI)) (ci := 5) (v := .int xTz) (C := RX5) (T := TX5) (N := 2) hx hb hts hIX5 hown hK hP 1 rfl rfl 1 (by decide) (va_Nw.use rfl (nw_at hN 9 rfl)) (fun _ h9 => h9) rfl dX2_read_50 ?_
    refine lv_icmp_ge (tgt := 61) hx hb dX2_read_53 (by decide) (fun c_36 => ?_) (fun c_36 => ?_)
    · have dc_36 : xTz.toInt ≤ w_18.toInt := jI_le c_36 rfl rfl
      refine lv_aload_n hx hb dX2_read_61 rfl (lv_at hl 0 rfl) ?_
      refine va_get (D := (dC, dI)) (ci := 2) (v := .int w_20) (C := RX2) (T := TX2) (N := 9) hx hb hts hIX2 hown hK hP 0 rfl rfl 6 (by decide) (hts (.fieldLink RX2 31 "TraitHouse$Reader" "fault" "I") (by decide +kernel)) (fun _ h9 => h9) rfl dX2_read_62 ?_
      have hP9 := hP.part (cx := [((ax 13), .inr (2, [.ref (ax 11), .ref (ax 14), .int w_17, .int w_18, .int w_19, .int n, .int w_20, .int w_21, .int w_22])), ((ax 11), .inr (5, [.ref (ax 12), .int xTz])), ((ax 12), .inl (cA 0, 200, .inl gB)), ((ax 14), .inl (cA 4, 200, .inr (.inr (.inr (.inr w_23)))))]) [0, 1, 2, 3] rfl
      have hD9 := hD.part (cx := [((ax 13), .inr (2, [.ref (ax 11), .ref (ax 14), .int w_17, .int w_18, .int w_19, .int n, .int w_20, .int w_21, .int w_22])), ((ax 11), .inr (5, [.ref (ax 12), .int xTz])), ((ax 12), .inl (cA 0, 200, .inl gB)), ((ax 14), .inl (cA 4, 200, .inr (.inr (.inr (.inr w_23)))))]) [0, 1, 2, 3] (by decide) rfl
      subst hQe
      refine W.widen (k := 200) (n := 800) (Nat.le_of_ble_eq_true rfl) (Nat.le_of_ble_eq_true rfl) ?_
      have hans : (w_20 : Int32).toInt = w_20.toInt := rfl
      have hpost : (0 ≤ w_17.toInt ∧ w_17.toInt ≤ 200) ∧ (0 ≤ w_18.toInt ∧ w_18.toInt ≤ 200) ∧ (0 ≤ w_19.toInt ∧ w_19.toInt ≤ 200) ∧ (0 ≤ n.toInt ∧ n.toInt ≤ 20) ∧ (stq (Int32.toInt 0) w_17.toInt gSt w_23 ([] ++ w_24) fm_34) ∧ (rs w_20 w_18 w_19 w_22 w_21 = pread (tpe gB xTz) xTz.toInt n.toInt) ∧ ((w_20 : Int32).toInt = w_20.toInt ∧ (-1) ≤ (w_20 : Int32).toInt) := ⟨iv_26, iv_27, iv_28, hn, sq_fm_34, (by have z9 : (0 : Int32).toInt = 0 := (by decide); have s9 : rs w_20 w_18 w_19 w_22 w_21 = psum (tpe gB xTz) xTz.toInt n.toInt (pB (tpe gB xTz) xTz.toInt n.toInt 8) (sk (tpe gB xTz) 0) (tke (tpe gB xTz) xTz.toInt (sk (tpe gB xTz) 0)) 0 0 := (by have h1 := ad_11; have h2 := rs_32; (try rw [z9] at h1); (try rw [z9] at h2); rw [← h1.2, ← h1.1]; exact h2); rw [pread, bnd_ok s9 (by omega), if_neg (show ¬ w_18.toInt < xTz.toInt by omega)]; exact rs_inr (by omega) rfl rfl rfl rfl), ⟨rfl, by omega⟩⟩
      exact W.iret (v := w_20) hx hb hr (fun t ht hW => ⟨⟨w_20, (w_17, w_18, w_19, w_20, w_21, w_22, w_23, n, ([] ++ w_24), fm_34), rfl, hpost, by rw [ht]; exact hP9, hD9⟩, hS.F ht⟩) hS.2.2 dX2_read_65
    · have dc_36 : w_18.toInt < xTz.toInt := jI_nle c_36 rfl rfl
      refine lv_aload_n hx hb dX2_read_56 rfl (lv_at hl 0 rfl) ?_
      obtain ⟨hPc, hDc, hFc, hCc⟩ := va_pre (ws' := [((ax 13), .inr (2, [.ref (ax 11), .ref (ax 14), .int w_17, .int w_18, .int w_19, .int n, .int w_20, .int w_21, .int w_22]))]) hP hD hS hA [0] (by decide) rfl
      refine va_calli (va_runV (As := []) (rest := []) ⟨hx, hb, hml, hown, hts⟩ (k_X2_stop l dC dI cA H.size ax w_17 w_18 w_19 n w_20 w_21 w_22 iv_26 iv_27 iv_28 hn) (cwV 0 hts gX2_read_X2_stop rfl rfl rfl (by decide +kernel) ⟨Nat.le_of_ble_eq_true rfl, Nat.le_of_ble_eq_true rfl⟩) ⟨fun a U g mk q => by obtain ⟨q0, q1, qP, qK, qD, qN⟩ := q; exact ⟨q0, q1, qP, va_K.moved (u := U) (U := U.calling g mk a) (Vm.Alike.refl U.vm) qK, qD, qN.same rfl⟩, va_recv hK hPc (ci := 2) (q0 := 0) rfl rfl, fun U hU hW => ⟨rfl, by rw [hU], by rw [hU]; exact hPc, va_K.moved hW.alike hK, hDc.weaken (fun _ _ _ _ => trivial), hN.warm hW⟩⟩ rfl rfl hl.1 rfl (lv_room (Nat.le_of_ble_eq_true rfl)) dX2_read_57 ⟨Nat.le_of_ble_eq_true rfl, Nat.le_of_ble_eq_true rfl⟩) hS (fun q _ h => hFc q h) hFc (fun r_37 u_38 t H1 locs ht hvm hw_39 hB hz1 hk1 hS => ?_)
      obtain ⟨w_40, rfl⟩ : ∃ z, z = u_38 := ⟨_, rfl⟩
      try dsimp only at hw_39 hB
      obtain ⟨hr9, sf_41⟩ := hw_39
      obtain ⟨hP1, hD1⟩ := hB
      rw [ht] at hP1
      obtain ⟨hP, hD⟩ := va_joinQ (wr := [((ax 11), .inr (5, [.ref (ax 12), .int xTz])), ((ax 12), .inl (cA 0, 200, .inl gB)), ((ax 14), .inl (cA 4, 200, .inr (.inr (.inr (.inr w_23)))))]) (w1 := [((ax 13), .inr (2, [.ref (ax 11), .ref (ax 14), .int w_17, .int w_18, .int w_19, .int n, .int w_40, .int w_21, .int w_22]))]) hP hD [0] [1, 2, 3] rfl rfl (by decide) (by decide) hk1 hFc hP1 hD1
      clear hz1
      generalize H1 = H at hP hS ⊢
      replace hP : va_P (dC, dI) vwCl (([((ax 11), .inr (5, [.ref (ax 12), .int xTz])), ((ax 12), .inl (cA 0, 200, .inl gB)), ((ax 14), .inl (cA 4, 200, .inr (.inr (.inr (.inr w_23))))), ((ax 13), .inr (2, [.ref (ax 11), .ref (ax 14), .int w_17, .int w_18, .int w_19, .int n, .int w_40, .int w_21, .int w_22]))] : va_W) ++ va_pl ([] ++ w_24) fm_34) H := hP
      replace hD : va_D A (([((ax 11), .inr (5, [.ref (ax 12), .int xTz])), ((ax 12), .inl (cA 0, 200, .inl gB)), ((ax 14), .inl (cA 4, 200, .inr (.inr (.inr (.inr w_23))))), ((ax 13), .inr (2, [.ref (ax 11), .ref (ax 14), .int w_17, .int w_18, .int w_19, .int n, .int w_40, .int w_21, .int w_22]))] : va_W) ++ va_pl ([] ++ w_24) fm_34) := hD
      obtain rfl : 0 = r_37 := hr9.symm
      refine lv_pop hx hb dX2_read_60 rfl ?_
      refine lv_aload_n hx hb dX2_read_61 rfl (lv_at hl 0 rfl) ?_
      refine va_get (D := (dC, dI)) (ci := 2) (v := .int w_40) (C := RX2) (T := TX2) (N := 9) hx hb hts hIX2 hown hK hP 3 rfl rfl 6 (by decide) (hts (.fieldLink RX2 31 "TraitHouse$Reader" "fault" "I") (by decide +kernel)) (fun _ h9 => h9) rfl dX2_read_62 ?_
      have hP9 := hP.part (cx := [((ax 13), .inr (2, [.ref (ax 11), .ref (ax 14), .int w_17, .int w_18, .int w_19, .int n, .int w_40, .int w_21, .int w_22])), ((ax 11), .inr (5, [.ref (ax 12), .int xTz])), ((ax 12), .inl (cA 0, 200, .inl gB)), ((ax 14), .inl (cA 4, 200, .inr (.inr (.inr (.inr w_23)))))]) [3, 0, 1, 2] rfl
      have hD9 := hD.part (cx := [((ax 13), .inr (2, [.ref (ax 11), .ref (ax 14), .int w_17, .int w_18, .int w_19, .int n, .int w_40, .int w_21, .int w_22])), ((ax 11), .inr (5, [.ref (ax 12), .int xTz])), ((ax 12), .inl (cA 0, 200, .inl gB)), ((ax 14), .inl (cA 4, 200, .inr (.inr (.inr (.inr w_23)))))]) [3, 0, 1, 2] (by decide) rfl
      subst hQe
      refine W.widen (k := 200) (n := 800) (Nat.le_of_ble_eq_true rfl) (Nat.le_of_ble_eq_true rfl) ?_
      have hans : (w_40 : Int32).toInt = w_40.toInt := rfl
      have hpost : (0 ≤ w_17.toInt ∧ w_17.toInt ≤ 200) ∧ (0 ≤ w_18.toInt ∧ w_18.toInt ≤ 200) ∧ (0 ≤ w_19.toInt ∧ w_19.toInt ≤ 200) ∧ (0 ≤ n.toInt ∧ n.toInt ≤ 20) ∧ (stq (Int32.toInt 0) w_17.toInt gSt w_23 ([] ++ w_24) fm_34) ∧ (rs w_40 w_18 w_19 w_22 w_21 = pread (tpe gB xTz) xTz.toInt n.toInt) ∧ ((w_40 : Int32).toInt = w_40.toInt ∧ (-1) ≤ (w_40 : Int32).toInt) := ⟨iv_26, iv_27, iv_28, hn, sq_fm_34, (by have z9 : (0 : Int32).toInt = 0 := (by decide); have s9 : rs w_20 w_18 w_19 w_22 w_21 = psum (tpe gB xTz) xTz.toInt n.toInt (pB (tpe gB xTz) xTz.toInt n.toInt 8) (sk (tpe gB xTz) 0) (tke (tpe gB xTz) xTz.toInt (sk (tpe gB xTz) 0)) 0 0 := (by have h1 := ad_11; have h2 := rs_32; (try rw [z9] at h1); (try rw [z9] at h2); rw [← h1.2, ← h1.1]; exact h2); rw [pread, bnd_ok s9 (by omega), if_pos (show w_18.toInt < xTz.toInt by omega)]; exact rs_inl (by omega) (by omega)), ⟨rfl, by omega⟩⟩
      exact W.iret (v := w_40) hx hb hr (fun t ht hW => ⟨⟨w_40, (w_17, w_18, w_19, w_40, w_21, w_22, w_23, n, ([] ++ w_24), fm_34), rfl, hpost, by rw [ht]; exact hP9, hD9⟩, hS.F ht⟩) hS.2.2 dX2_read_65

set_option maxHeartbeats 8000000 in
set_option maxRecDepth 100000 in
theorem k_X2_stepsRead (l : Launch) (dC : Nat → ClassId) (dI : Nat → Nat → Nat) (cA : Nat → ClassId) (sz : Nat) (ax : Nat → Nat) (xSz : Int32) (xPl : Int32) (xBe : Int32) (xRt : Int32) (xRf : Int32) (xRd : Int32) (xLk : Int32) (gSt : Nat → Option Nat) (L : List Nat) (pf : Nat → va_E) (i_xSz : 0 ≤ xSz.toInt ∧ xSz.toInt ≤ 200) (i_xPl : 0 ≤ xPl.toInt ∧ xPl.toInt ≤ 200) (i_xBe : 0 ≤ xBe.toInt ∧ xBe.toInt ≤ 200) (i_xRt : 0 ≤ xRt.toInt ∧ xRt.toInt ≤ 20) (hsq : ∀ j : Nat, (j : Int) < xSz.toInt → ∃ a, gSt j = some a ∧ stepOk L pf a) : Met l yX2_stepsRead wsX2_stepsRead ({ frames := 0, cells := 1, slots := 200, locals := 0 }) (va_Pc [.ref (ax 13)] (fun U => U.heap.size = sz ∧ va_P (dC, dI) vwCl (([((ax 13), .inr (2, [.ref (ax 11), .ref (ax 14), .int xSz, .int xPl, .int xBe, .int xRt, .int xRf, .int xRd, .int xLk])), ((ax 14), .inl (cA 4, 200, .inr (.inr (.inr (.inr gSt)))))] : va_W) ++ va_pl L pf) U.heap ∧ va_K (dC, dI) vwCl (tyL cA) U ∧ va_D (fun _ => True) (([((ax 13), .inr (2, [.ref (ax 11), .ref (ax 14), .int xSz, .int xPl, .int xBe, .int xRt, .int xRf, .int xRd, .int xLk])), ((ax 14), .inl (cA 4, 200, .inr (.inr (.inr (.inr gSt)))))] : va_W) ++ va_pl L pf) ∧ nw_ok U)) (va_Qq (fun (r : Option Nat) (u : Nat × (Nat → Option Nat)) => (r = some u.1) ∧ (∀ j : Nat, (j : Int) < xSz.toInt → u.2 j = gSt j)) (fun (u : Nat × (Nat → Option Nat)) (t : State) => va_P (dC, dI) vwCl (([((ax 13), .inr (2, [.ref (ax 11), .ref (ax 14), .int xSz, .int xPl, .int xBe, .int xRt, .int xRf, .int xRd, .int xLk])), ((ax 14), .inl (cA 4, 200, .inr (.inr (.inr (.inr gSt))))), (u.1, .inl (cA 4, (xSz.toInt.toNat), .inr (.inr (.inr (.inr u.2)))))] : va_W) ++ va_pl L pf) t.heap ∧ va_D (va_A (([((ax 13), .inr (2, [.ref (ax 11), .ref (ax 14), .int xSz, .int xPl, .int xBe, .int xRt, .int xRf, .int xRd, .int xLk])), ((ax 14), .inl (cA 4, 200, .inr (.inr (.inr (.inr gSt)))))] : va_W) ++ va_pl L pf) sz) (([((ax 13), .inr (2, [.ref (ax 11), .ref (ax 14), .int xSz, .int xPl, .int xBe, .int xRt, .int xRf, .int xRd, .int xLk])), ((ax 14), .inl (cA 4, 200, .inr (.inr (.inr (.inr gSt))))), (u.1, .inl (cA 4, (xSz.toInt.toNat), .inr (.inr (.inr (.inr u.2)))))] : va_W) ++ va_pl L pf)) (va_A (([((ax 13), .inr (2, [.ref (ax 11), .ref (ax 14), .int xSz, .int xPl, .int xBe, .int xRt, .int xRf, .int xRd, .int xLk])), ((ax 14), .inl (cA 4, 200, .inr (.inr (.inr (.inr gSt)))))] : va_W) ++ va_pl L pf) sz)) 1 200 (va_A (([((ax 13), .inr (2, [.ref (ax 11), .ref (ax 14), .int xSz, .int xPl, .int xBe, .int xRt, .int xRf, .int xRd, .int xLk])), ((ax 14), .inl (cA 4, 200, .inr (.inr (.inr (.inr gSt)))))] : va_W) ++ va_pl L pf) sz) := by
  refine Met.ofW (cc := cX2_stepsRead) (maxL := 3) (ret := (some (.array (.object "TraitHouse$Step")))) (by decide) rfl ?_
  intro p e s m args below meth c s₁ B hml hv
  obtain ⟨rfl, hsz, hP, hK, hD0, hN⟩ := hv
  have hx := B.exec
  have hb := B.bytes
  have hr := B.returns
  have hts := atoms_spec (ws := wsX2_stepsRead) B.pre
  have hown : s.vm.findClass RX2 = some m.cls := findClass_of_methodNamed B.named
  have hlocks := B.notSynchronized
  subst hsz
  have hD := hD0.self (sz := s.heap.size)
  generalize hAe : va_A (([((ax 13), .inr (2, [.ref (ax 11), .ref (ax 14), .int xSz, .int xPl, .int xBe, .int xRt, .int xRf, .int xRd, .int xLk])), ((ax 14), .inl (cA 4, 200, .inr (.inr (.inr (.inr gSt)))))] : va_W) ++ va_pl L pf) s.heap.size = A at hD ⊢
  have hA : ∀ q : Nat, s.heap.size ≤ q → A q := fun q h => by rw [← hAe]; exact Or.inr h
  have hS : va_S A s.heap s.heap [] := va_S.rf
  have hIX2 : ∀ w ∈ u_ws RX2 TX2 9, w ∈ wsX2_stepsRead := by decide +kernel
  have hl := lv_entry ([.ref (ax 13)]) (n := 3) (Nat.le_of_ble_eq_true rfl)
  rw [lg_entry_eq]
  generalize (lg_sl ([.ref (ax 13)]) ++ List.replicate (3 - (lg_sl ([.ref (ax 13)])).length) Slot.unset).toArray = ls at hl ⊢
  have hl : lv_has ls 3 [(0, .ref (ax 13))] := hl
  generalize hQe : MQ below _ _ _ _ _ _ = QQ
  refine lv_aload_n hx hb dX2_stepsRead_0 rfl (lv_at hl 0 rfl) ?_
  refine va_get (D := (dC, dI)) (ci := 2) (v := .int xSz) (C := RX2) (T := TX2) (N := 9) hx hb hts hIX2 hown hK hP 0 rfl rfl 2 (by decide) (hts (.fieldLink RX2 21 "TraitHouse$Reader" "size" "I") (by decide +kernel)) (fun _ h9 => h9) rfl dX2_stepsRead_1 ?_
  refine va_newq (N' := xSz.toInt.toNat) hx hb hown (hts (.classLink RX2 9 RX4) (by decide +kernel)) hN.2.1 hK hP hD hS hA (jI_nn (by omega)) rfl (by omega) (show 0 + 1 ≤ 1 by omega) (show 0 + xSz.toInt.toNat ≤ 200 by omega) dX2_stepsRead_4 (fun q_1 cx_2 H hK9 hP hD hS => ?_)
  obtain rfl : cA 4 = cx_2 := ty_uni4 hK9
  replace hP := hP.swap
  replace hD := hD.swap
  replace hP : va_P (dC, dI) vwCl (([((ax 13), .inr (2, [.ref (ax 11), .ref (ax 14), .int xSz, .int xPl, .int xBe, .int xRt, .int xRf, .int xRd, .int xLk])), ((ax 14), .inl (cA 4, 200, .inr (.inr (.inr (.inr gSt))))), (q_1, .inl (cA 4, (xSz.toInt.toNat), .inr (.inr (.inr (.inr (fun _ => none))))))] : va_W) ++ va_pl L pf) H := hP
  replace hD : va_D A (([((ax 13), .inr (2, [.ref (ax 11), .ref (ax 14), .int xSz, .int xPl, .int xBe, .int xRt, .int xRf, .int xRd, .int xLk])), ((ax 14), .inl (cA 4, 200, .inr (.inr (.inr (.inr gSt))))), (q_1, .inl (cA 4, (xSz.toInt.toNat), .inr (.inr (.inr (.inr (fun _ => none))))))] : va_W) ++ va_pl L pf) := hD
  refine W.widen (k := 1) (n := 200) (Nat.le_of_ble_eq_true rfl) (by omega) ?_
  refine lv_astore_n (lv' := [(1, .ref q_1), (0, .ref (ax 13))]) hx hb dX2_stepsRead_7 rfl hl (by decide) rfl (fun ls hl => ?_)
  refine lv_iconst (v := 0) hx hb dX2_stepsRead_8 (by decide) ?_
  refine lv_istore_n (lv' := [(2, .int 0), (1, .ref q_1), (0, .ref (ax 13))]) hx hb dX2_stepsRead_9 rfl hl (by decide) rfl (fun ls hl => ?_)
  have loop10_3 : ∀ (n : Nat) (i2 : Int32) (g10 : Nat → Option Nat) (H : Heap) (locs : List Loc) (ls : Array Slot), 200 - i2.toInt < (n : Int) → (0 ≤ i2.toInt ∧ i2.toInt ≤ 200) → (∀ j : Nat, (j : Int) < i2.toInt → g10 j = gSt j) → va_P (dC, dI) vwCl (([((ax 13), .inr (2, [.ref (ax 11), .ref (ax 14), .int xSz, .int xPl, .int xBe, .int xRt, .int xRf, .int xRd, .int xLk])), ((ax 14), .inl (cA 4, 200, .inr (.inr (.inr (.inr gSt))))), (q_1, .inl (cA 4, (xSz.toInt.toNat), .inr (.inr (.inr (.inr g10)))))] : va_W) ++ va_pl L pf) H → va_D A (([((ax 13), .inr (2, [.ref (ax 11), .ref (ax 14), .int xSz, .int xPl, .int xBe, .int xRt, .int xRf, .int xRd, .int xLk])), ((ax 14), .inl (cA 4, 200, .inr (.inr (.inr (.inr gSt))))), (q_1, .inl (cA 4, (xSz.toInt.toNat), .inr (.inr (.inr (.inr g10)))))] : va_W) ++ va_pl L pf) → va_S A s.heap H locs → lv_has ls 3 [(2, .int i2), (1, .ref q_1), (0, .ref (ax 13))] → W p l e ({ frames := 0, cells := 1, slots := 200, locals := 0 }) s m ([.ref (ax 13)] : List Value).toArray below meth c H locs 1 200 QQ (F0 m 10 ls []) := by
    intro n
    induction n with
    | zero => intro i2 g10 H locs ls hme hv0_10 hv1_10; exfalso; omega
    | succ n ih_10 =>
      intro i2 g10 H locs ls hme_10 hv0_10 hv1_10 hP hD hS hl
      refine lv_iload_n hx hb dX2_stepsRead_10 rfl (lv_at hl 0 rfl) ?_
      refine lv_aload_n hx hb dX2_stepsRead_11 rfl (lv_at hl 2 rfl) ?_
      refine va_get (D := (dC, dI)) (ci := 2) (v := .int xSz) (C := RX2) (T := TX2) (N := 9) hx hb hts hIX2 hown hK hP 0 rfl rfl 2 (by decide) (hts (.fieldLink RX2 21 "TraitHouse$Reader" "size" "I") (by decide +kernel)) (fun _ h9 => h9) rfl dX2_stepsRead_12 ?_
      refine lv_icmp_ge (tgt := 33) hx hb dX2_stepsRead_15 (by decide) (fun c_4 => ?_) (fun c_4 => ?_)
      · have dc_4 : xSz.toInt ≤ i2.toInt := jI_le c_4 rfl rfl
        refine lv_aload_n hx hb dX2_stepsRead_33 rfl (lv_at hl 1 rfl) ?_
        have hP9 := hP.part (cx := [((ax 13), .inr (2, [.ref (ax 11), .ref (ax 14), .int xSz, .int xPl, .int xBe, .int xRt, .int xRf, .int xRd, .int xLk])), ((ax 14), .inl (cA 4, 200, .inr (.inr (.inr (.inr gSt))))), (q_1, .inl (cA 4, (xSz.toInt.toNat), .inr (.inr (.inr (.inr g10)))))]) [0, 1, 2] rfl
        have hD9 := hD.part (cx := [((ax 13), .inr (2, [.ref (ax 11), .ref (ax 14), .int xSz, .int xPl, .int xBe, .int xRt, .int xRf, .int xRd, .int xLk])), ((ax 14), .inl (cA 4, 200, .inr (.inr (.inr (.inr gSt))))), (q_1, .inl (cA 4, (xSz.toInt.toNat), .inr (.inr (.inr (.inr g10)))))]) [0, 1, 2] (by decide) rfl
        subst hQe
        refine W.widen (k := 1) (n := 200) (Nat.le_of_ble_eq_true rfl) (Nat.le_of_ble_eq_true rfl) ?_
        have hpost : ((some q_1) = some q_1) ∧ (∀ j : Nat, (j : Int) < xSz.toInt → g10 j = gSt j) := ⟨rfl, fun j hj => hv1_10 j (by omega)⟩
        exact W.aret hx hb hr (Or.inr ⟨_, rfl⟩) (Or.inr ⟨_, rfl⟩) (fun t ht hW => ⟨⟨(some q_1), (q_1, g10), rfl, hpost, by rw [ht]; exact hP9, hD9⟩, hS.F ht⟩) hS.2.2 dX2_stepsRead_34
      · have dc_4 : i2.toInt < xSz.toInt := jI_nle c_4 rfl rfl
        refine lv_aload_n hx hb dX2_stepsRead_18 rfl (lv_at hl 1 rfl) ?_
        refine lv_iload_n hx hb dX2_stepsRead_19 rfl (lv_at hl 0 rfl) ?_
        refine lv_aload_n hx hb dX2_stepsRead_20 rfl (lv_at hl 2 rfl) ?_
        refine va_get (D := (dC, dI)) (ci := 2) (v := .ref (ax 14)) (C := RX2) (T := TX2) (N := 9) hx hb hts hIX2 hown hK hP 0 rfl rfl 1 (by decide) (hts (.fieldLink RX2 11 "TraitHouse$Reader" "steps" "[LTraitHouse$Step;") (by decide +kernel)) (fun _ h9 => h9) rfl dX2_stepsRead_21 ?_
        refine lv_iload_n hx hb dX2_stepsRead_24 rfl (lv_at hl 0 rfl) ?_
        have h_5 : vp_in i2 200 := (vp_in_iff.mpr ⟨by omega, by omega⟩)
        refine va_aldq hx hb hK hP 1 4 rfl rfl h_5 dX2_stepsRead_25 ?_
        obtain ⟨t_6, hae_6, ham_6, kd_6, nb_6, fr_6, to_6, haf_6, hak_6⟩ := hsq i2.toNatClampNeg (by have : i2.toNatClampNeg = i2.toInt.toNat := rfl; omega)
        rw [hae_6]
        refine W.eq (g2 := F0 m 26 ls [.ref t_6, .int i2, .ref q_1]) rfl ?_
        obtain ⟨pk_7, hpk_7⟩ := va_pl_get (X := [((ax 13), .inr (2, [.ref (ax 11), .ref (ax 14), .int xSz, .int xPl, .int xBe, .int xRt, .int xRf, .int xRd, .int xLk])), ((ax 14), .inl (cA 4, 200, .inr (.inr (.inr (.inr gSt))))), (q_1, .inl (cA 4, (xSz.toInt.toNat), .inr (.inr (.inr (.inr g10)))))]) (f := pf) ham_6
        have gpk_7 := hpk_7
        rw [haf_6] at hpk_7
        have h_8 : vp_in i2 (xSz.toInt.toNat) := (vp_in_iff.mpr ⟨by omega, by omega⟩)
        refine va_astq (r := (RX4, TX4, 4)) hx hb hK hP hD hS 2 4 pk_7 4 rfl rfl hpk_7 rfl h_8 dX2_stepsRead_26 (fun H locs hP hD hS => ?_)
        replace hP : va_P (dC, dI) vwCl (([((ax 13), .inr (2, [.ref (ax 11), .ref (ax 14), .int xSz, .int xPl, .int xBe, .int xRt, .int xRf, .int xRd, .int xLk])), ((ax 14), .inl (cA 4, 200, .inr (.inr (.inr (.inr gSt))))), (q_1, .inl (cA 4, (xSz.toInt.toNat), .inr (.inr (.inr (.inr (va_up g10 i2.toNatClampNeg (some t_6)))))))] : va_W) ++ va_pl L pf) H := hP
        replace hD : va_D A (([((ax 13), .inr (2, [.ref (ax 11), .ref (ax 14), .int xSz, .int xPl, .int xBe, .int xRt, .int xRf, .int xRd, .int xLk])), ((ax 14), .inl (cA 4, 200, .inr (.inr (.inr (.inr gSt))))), (q_1, .inl (cA 4, (xSz.toInt.toNat), .inr (.inr (.inr (.inr (va_up g10 i2.toNatClampNeg (some t_6)))))))] : va_W) ++ va_pl L pf) := hD
        obtain ⟨g_9, eg_9⟩ : ∃ g : Nat → Option Nat, g = va_up g10 i2.toNatClampNeg (some t_6) := ⟨_, rfl⟩
        rw [← eg_9] at hP hD
        obtain ⟨x_10, ex_10⟩ : ∃ y : Int32, y = i2 + 1 := ⟨_, rfl⟩
        have dx_10 : x_10.toInt = i2.toInt + 1 := by rw [ex_10]; exact jI_add rfl (by decide) (by omega) (by omega)
        refine lv_iinc (v := x_10) (lv' := [(2, .int x_10), (1, .ref q_1), (0, .ref (ax 13))]) hx hb dX2_stepsRead_27 hl (k := 0) rfl (by rw [ex_10]; rfl) (by decide) rfl (fun ls hl => ?_)
        refine lv_goto (tgt := 10) hx hb dX2_stepsRead_30 (by decide) ?_
        exact ih_10 x_10 g_9 _ _ ls (by omega) (by omega) (cp_step hv1_10 eg_9 hae_6 (by omega) (by omega)) (hP.part (cx := [((ax 13), .inr (2, [.ref (ax 11), .ref (ax 14), .int xSz, .int xPl, .int xBe, .int xRt, .int xRf, .int xRd, .int xLk])), ((ax 14), .inl (cA 4, 200, .inr (.inr (.inr (.inr gSt))))), (q_1, .inl (cA 4, (xSz.toInt.toNat), .inr (.inr (.inr (.inr g_9)))))]) [0, 1, 2] rfl) (hD.part (cx := [((ax 13), .inr (2, [.ref (ax 11), .ref (ax 14), .int xSz, .int xPl, .int xBe, .int xRt, .int xRf, .int xRd, .int xLk])), ((ax 14), .inl (cA 4, 200, .inr (.inr (.inr (.inr gSt))))), (q_1, .inl (cA 4, (xSz.toInt.toNat), .inr (.inr (.inr (.inr g_9)))))]) [0, 1, 2] (by decide) rfl) hS (lv_sub hl [0, 1, 2] rfl)
  have hk_11 : (0 : Int32).toInt = 0 := by decide
  exact loop10_3 (Int.toNat (200 - (0 : Int32).toInt) + 1) 0 (fun _ => none) _ _ ls (by omega) (by omega) (fun j hj => by exfalso; omega) hP hD hS (lv_sub hl [0, 1, 2] rfl)

set_option maxHeartbeats 8000000 in
set_option maxRecDepth 100000 in
theorem k_X6_init (l : Launch) (dC : Nat → ClassId) (dI : Nat → Nat → Nat) (cA : Nat → ClassId) (sz : Nat) (ta6 : Nat) (sR : Nat) (nd1 : Int32)   : Met l yX6_init wsX6_init ({ frames := 1, cells := 2, slots := 40, locals := 24 }) (va_Pc [.ref ta6, .ref sR, .int nd1] (fun U => U.heap.size = sz ∧ va_P (dC, dI) vwCl [(ta6, .inr (6, [.null, .int 0, .null, .null, .long 0, .long 0, .int 0, .int 0]))] U.heap ∧ va_K (dC, dI) vwCl (tyL cA) U ∧ va_D (fun _ => True) [(ta6, .inr (6, [.null, .int 0, .null, .null, .long 0, .long 0, .int 0, .int 0]))] ∧ nw_ok U)) (va_Qv (fun (u : Nat × Nat × (Nat → Int64) × (Nat → Int32)) => True) (fun (u : Nat × Nat × (Nat → Int64) × (Nat → Int32)) (t : State) => va_P (dC, dI) vwCl [(ta6, .inr (6, [.ref sR, .int nd1, .ref u.1, .ref u.2.1, .long (-1000000000000), .long 1000000000000, .int 100000, .int 0])), (u.1, .inl (cA 1, 20, .inr (.inl u.2.2.1))), (u.2.1, .inl (cA 0, 20, .inl u.2.2.2))] t.heap ∧ va_D (va_A [(ta6, .inr (6, [.null, .int 0, .null, .null, .long 0, .long 0, .int 0, .int 0]))] sz) [(ta6, .inr (6, [.ref sR, .int nd1, .ref u.1, .ref u.2.1, .long (-1000000000000), .long 1000000000000, .int 100000, .int 0])), (u.1, .inl (cA 1, 20, .inr (.inl u.2.2.1))), (u.2.1, .inl (cA 0, 20, .inl u.2.2.2))]) (va_A [(ta6, .inr (6, [.null, .int 0, .null, .null, .long 0, .long 0, .int 0, .int 0]))] sz)) 2 40 (va_A [(ta6, .inr (6, [.null, .int 0, .null, .null, .long 0, .long 0, .int 0, .int 0]))] sz) := by
  refine Met.ofW (cc := cX6_init) (maxL := 3) (ret := none) (by decide) rfl ?_
  intro p e s m args below meth c s₁ B hml hv
  obtain ⟨rfl, hsz, hP, hK, hD0, hN⟩ := hv
  have hx := B.exec
  have hb := B.bytes
  have hr := B.returns
  have hts := atoms_spec (ws := wsX6_init) B.pre
  have hown : s.vm.findClass RX6 = some m.cls := findClass_of_methodNamed B.named
  have hlocks := B.notSynchronized
  have hin : meth.name = "<init>" := (name_of_methodNamed B.named B.method).1
  subst hsz
  have hD := hD0.self (sz := s.heap.size)
  generalize hAe : va_A [(ta6, .inr (6, [.null, .int 0, .null, .null, .long 0, .long 0, .int 0, .int 0]))] s.heap.size = A at hD ⊢
  have hA : ∀ q : Nat, s.heap.size ≤ q → A q := fun q h => by rw [← hAe]; exact Or.inr h
  have hS : va_S A s.heap s.heap [] := va_S.rf
  have hIX6 : ∀ w ∈ u_ws RX6 TX6 8, w ∈ wsX6_init := by decide +kernel
  have hl := lv_entry ([.ref ta6, .ref sR, .int nd1]) (n := 3) (Nat.le_of_ble_eq_true rfl)
  rw [lg_entry_eq]
  generalize (lg_sl ([.ref ta6, .ref sR, .int nd1]) ++ List.replicate (3 - (lg_sl ([.ref ta6, .ref sR, .int nd1])).length) Slot.unset).toArray = ls at hl ⊢
  have hl : lv_has ls 3 [(0, .ref ta6), (1, .ref sR), (2, .int nd1)] := hl
  generalize hQe : MQ below _ _ _ _ _ _ = QQ
  refine lv_aload_n hx hb dX6_init_0 rfl (lv_at hl 0 rfl) ?_
  refine W.objInit hx hb hown (hts (.methodLink RX6 3 objectInit) (by decide +kernel)) (hts (.instanceMethod objectInit) (by decide +kernel)) (hts (.code objectInit ⟨#[0xb1]⟩ 1 none) (by decide +kernel)) rfl (by rw [hml]; exact hl.1) rfl dX6_init_1 (Nat.le_of_ble_eq_true rfl) (Nat.le_of_ble_eq_true rfl) ?_
  refine W.eq (g2 := F0 m 4 ls []) rfl ?_
  refine lv_aload_n hx hb dX6_init_4 rfl (lv_at hl 0 rfl) ?_
  refine lv_bipush (v := 20) hx hb dX6_init_5 (by decide) ?_
  refine va_newa (atype := .long) (a0 := (20, .inr (.inl (fun _ => 0)))) (ty := .long) (N' := 20) hx hb (hts (.arrayClass .long) (by decide +kernel)) rfl hK hP hD hS hA (jnew_long 20) (by decide) (by decide) (jnb_long (by decide)) (by decide) (by decide) dX6_init_7 (fun q_1 cx_2 H hK9 hP hD hS => ?_)
  obtain rfl : cA 1 = cx_2 := ty_uni1 hK9
  replace hP : va_P (dC, dI) vwCl [(ta6, .inr (6, [.null, .int 0, .null, .null, .long 0, .long 0, .int 0, .int 0])), (q_1, .inl (cA 1, 20, .inr (.inl (fun _ => 0))))] H := hP
  replace hD : va_D A [(ta6, .inr (6, [.null, .int 0, .null, .null, .long 0, .long 0, .int 0, .int 0])), (q_1, .inl (cA 1, 20, .inr (.inl (fun _ => 0))))] := hD
  refine W.widen (k := 1) (n := 20) (Nat.le_of_ble_eq_true rfl) (Nat.le_of_ble_eq_true rfl) ?_
  refine va_putF (D := (dC, dI)) (ci := 6) (v := .ref q_1) (ty := (.array .long)) (C := RX6) (T := TX6) (N := 8) hx hb hts hIX6 tyX6 tyX6_ok nmX6 hown hK hP hD hS 0 rfl rfl 2 (by decide) (hts (.fieldLink RX6 9 "TraitHouse$Trait" "keptValues" "[J") (by decide +kernel)) (fun _ h9 => h9) rfl hin rfl (by decide +kernel) rfl rfl (Nat.le_of_ble_eq_true rfl) dX6_init_9 (fun H locs hP hD hS => ?_)
  replace hP : va_P (dC, dI) vwCl [(ta6, .inr (6, [.null, .int 0, .ref q_1, .null, .long 0, .long 0, .int 0, .int 0])), (q_1, .inl (cA 1, 20, .inr (.inl (fun _ => 0))))] H := hP
  replace hD : va_D A [(ta6, .inr (6, [.null, .int 0, .ref q_1, .null, .long 0, .long 0, .int 0, .int 0])), (q_1, .inl (cA 1, 20, .inr (.inl (fun _ => 0))))] := hD
  refine lv_aload_n hx hb dX6_init_12 rfl (lv_at hl 0 rfl) ?_
  refine lv_bipush (v := 20) hx hb dX6_init_13 (by decide) ?_
  refine va_newa (atype := .int) (a0 := (20, .inl (fun _ => 0))) (ty := .int) (N' := 20) hx hb (hts (.arrayClass .int) (by decide +kernel)) rfl hK hP hD hS hA (jnew_int 20) (by decide) (by decide) (jnb_int (by decide)) (by decide) (by decide) dX6_init_15 (fun q_4 cx_5 H hK9 hP hD hS => ?_)
  obtain rfl : cA 0 = cx_5 := ty_uni0 hK9
  replace hP : va_P (dC, dI) vwCl [(ta6, .inr (6, [.null, .int 0, .ref q_1, .null, .long 0, .long 0, .int 0, .int 0])), (q_1, .inl (cA 1, 20, .inr (.inl (fun _ => 0)))), (q_4, .inl (cA 0, 20, .inl (fun _ => 0)))] H := hP
  replace hD : va_D A [(ta6, .inr (6, [.null, .int 0, .ref q_1, .null, .long 0, .long 0, .int 0, .int 0])), (q_1, .inl (cA 1, 20, .inr (.inl (fun _ => 0)))), (q_4, .inl (cA 0, 20, .inl (fun _ => 0)))] := hD
  refine W.widen (k := 2) (n := 40) (Nat.le_of_ble_eq_true rfl) (Nat.le_of_ble_eq_true rfl) ?_
  refine va_putF (D := (dC, dI)) (ci := 6) (v := .ref q_4) (ty := (.array .int)) (C := RX6) (T := TX6) (N := 8) hx hb hts hIX6 tyX6 tyX6_ok nmX6 hown hK hP hD hS 0 rfl rfl 3 (by decide) (hts (.fieldLink RX6 15 "TraitHouse$Trait" "keptMoments" "[I") (by decide +kernel)) (fun _ h9 => h9) rfl hin rfl (by decide +kernel) rfl rfl (Nat.le_of_ble_eq_true rfl) dX6_init_17 (fun H locs hP hD hS => ?_)
  replace hP : va_P (dC, dI) vwCl [(ta6, .inr (6, [.null, .int 0, .ref q_1, .ref q_4, .long 0, .long 0, .int 0, .int 0])), (q_1, .inl (cA 1, 20, .inr (.inl (fun _ => 0)))), (q_4, .inl (cA 0, 20, .inl (fun _ => 0)))] H := hP
  replace hD : va_D A [(ta6, .inr (6, [.null, .int 0, .ref q_1, .ref q_4, .long 0, .long 0, .int 0, .int 0])), (q_1, .inl (cA 1, 20, .inr (.inl (fun _ => 0)))), (q_4, .inl (cA 0, 20, .inl (fun _ => 0)))] := hD
  refine lv_aload_n hx hb dX6_init_20 rfl (lv_at hl 0 rfl) ?_
  refine lv_ldc2 hx hb hown (hts (.constantLong RX6 19 (-1000000000000)) (by decide +kernel)) dX6_init_21 ?_
  refine va_put (D := (dC, dI)) (ci := 6) (v := .long (-1000000000000)) (ty := .long) (C := RX6) (T := TX6) (N := 8) hx hb hts hIX6 tyX6 tyX6_ok nmX6 hown hK hP hD hS 0 rfl rfl 4 (by decide) (hts (.fieldLink RX6 21 "TraitHouse$Trait" "lawFrom" "J") (by decide +kernel)) (fun _ h9 => h9) rfl (by decide +kernel) rfl rfl (Nat.le_of_ble_eq_true rfl) dX6_init_24 (fun H locs hP hD hS => ?_)
  replace hP : va_P (dC, dI) vwCl [(ta6, .inr (6, [.null, .int 0, .ref q_1, .ref q_4, .long (-1000000000000), .long 0, .int 0, .int 0])), (q_1, .inl (cA 1, 20, .inr (.inl (fun _ => 0)))), (q_4, .inl (cA 0, 20, .inl (fun _ => 0)))] H := hP
  replace hD : va_D A [(ta6, .inr (6, [.null, .int 0, .ref q_1, .ref q_4, .long (-1000000000000), .long 0, .int 0, .int 0])), (q_1, .inl (cA 1, 20, .inr (.inl (fun _ => 0)))), (q_4, .inl (cA 0, 20, .inl (fun _ => 0)))] := hD
  refine lv_aload_n hx hb dX6_init_27 rfl (lv_at hl 0 rfl) ?_
  refine lv_ldc2 hx hb hown (hts (.constantLong RX6 25 (1000000000000)) (by decide +kernel)) dX6_init_28 ?_
  refine va_put (D := (dC, dI)) (ci := 6) (v := .long 1000000000000) (ty := .long) (C := RX6) (T := TX6) (N := 8) hx hb hts hIX6 tyX6 tyX6_ok nmX6 hown hK hP hD hS 0 rfl rfl 5 (by decide) (hts (.fieldLink RX6 27 "TraitHouse$Trait" "lawTo" "J") (by decide +kernel)) (fun _ h9 => h9) rfl (by decide +kernel) rfl rfl (Nat.le_of_ble_eq_true rfl) dX6_init_31 (fun H locs hP hD hS => ?_)
  replace hP : va_P (dC, dI) vwCl [(ta6, .inr (6, [.null, .int 0, .ref q_1, .ref q_4, .long (-1000000000000), .long 1000000000000, .int 0, .int 0])), (q_1, .inl (cA 1, 20, .inr (.inl (fun _ => 0)))), (q_4, .inl (cA 0, 20, .inl (fun _ => 0)))] H := hP
  replace hD : va_D A [(ta6, .inr (6, [.null, .int 0, .ref q_1, .ref q_4, .long (-1000000000000), .long 1000000000000, .int 0, .int 0])), (q_1, .inl (cA 1, 20, .inr (.inl (fun _ => 0)))), (q_4, .inl (cA 0, 20, .inl (fun _ => 0)))] := hD
  refine lv_aload_n hx hb dX6_init_34 rfl (lv_at hl 0 rfl) ?_
  refine lv_ldc hx hb hown (hts (.constant RX6 30 (100000)) (by decide +kernel)) dX6_init_35 ?_
  refine va_put (D := (dC, dI)) (ci := 6) (v := .int 100000) (ty := .int) (C := RX6) (T := TX6) (N := 8) hx hb hts hIX6 tyX6 tyX6_ok nmX6 hown hK hP hD hS 0 rfl rfl 6 (by decide) (hts (.fieldLink RX6 31 "TraitHouse$Trait" "staleAbove" "I") (by decide +kernel)) (fun _ h9 => h9) rfl (by decide +kernel) rfl rfl (Nat.le_of_ble_eq_true rfl) dX6_init_37 (fun H locs hP hD hS => ?_)
  replace hP : va_P (dC, dI) vwCl [(ta6, .inr (6, [.null, .int 0, .ref q_1, .ref q_4, .long (-1000000000000), .long 1000000000000, .int 100000, .int 0])), (q_1, .inl (cA 1, 20, .inr (.inl (fun _ => 0)))), (q_4, .inl (cA 0, 20, .inl (fun _ => 0)))] H := hP
  replace hD : va_D A [(ta6, .inr (6, [.null, .int 0, .ref q_1, .ref q_4, .long (-1000000000000), .long 1000000000000, .int 100000, .int 0])), (q_1, .inl (cA 1, 20, .inr (.inl (fun _ => 0)))), (q_4, .inl (cA 0, 20, .inl (fun _ => 0)))] := hD
  refine lv_aload_n hx hb dX6_init_40 rfl (lv_at hl 0 rfl) ?_
  refine lv_aload_n hx hb dX6_init_41 rfl (lv_at hl 1 rfl) ?_
  refine va_putF (D := (dC, dI)) (ci := 6) (v := .ref sR) (ty := (.array (.object "TraitHouse$Step"))) (C := RX6) (T := TX6) (N := 8) hx hb hts hIX6 tyX6 tyX6_ok nmX6 hown hK hP hD hS 0 rfl rfl 0 (by decide) (hts (.fieldLink RX6 35 "TraitHouse$Trait" "steps" "[LTraitHouse$Step;") (by decide +kernel)) (fun _ h9 => h9) rfl hin rfl (by decide +kernel) rfl rfl (Nat.le_of_ble_eq_true rfl) dX6_init_42 (fun H locs hP hD hS => ?_)
  replace hP : va_P (dC, dI) vwCl [(ta6, .inr (6, [.ref sR, .int 0, .ref q_1, .ref q_4, .long (-1000000000000), .long 1000000000000, .int 100000, .int 0])), (q_1, .inl (cA 1, 20, .inr (.inl (fun _ => 0)))), (q_4, .inl (cA 0, 20, .inl (fun _ => 0)))] H := hP
  replace hD : va_D A [(ta6, .inr (6, [.ref sR, .int 0, .ref q_1, .ref q_4, .long (-1000000000000), .long 1000000000000, .int 100000, .int 0])), (q_1, .inl (cA 1, 20, .inr (.inl (fun _ => 0)))), (q_4, .inl (cA 0, 20, .inl (fun _ => 0)))] := hD
  refine lv_aload_n hx hb dX6_init_45 rfl (lv_at hl 0 rfl) ?_
  refine lv_iload_n hx hb dX6_init_46 rfl (lv_at hl 2 rfl) ?_
  refine va_putF (D := (dC, dI)) (ci := 6) (v := .int nd1) (ty := .int) (C := RX6) (T := TX6) (N := 8) hx hb hts hIX6 tyX6 tyX6_ok nmX6 hown hK hP hD hS 0 rfl rfl 1 (by decide) (hts (.fieldLink RX6 39 "TraitHouse$Trait" "needs" "I") (by decide +kernel)) (fun _ h9 => h9) rfl hin rfl (by decide +kernel) rfl rfl (Nat.le_of_ble_eq_true rfl) dX6_init_47 (fun H locs hP hD hS => ?_)
  replace hP : va_P (dC, dI) vwCl [(ta6, .inr (6, [.ref sR, .int nd1, .ref q_1, .ref q_4, .long (-1000000000000), .long 1000000000000, .int 100000, .int 0])), (q_1, .inl (cA 1, 20, .inr (.inl (fun _ => 0)))), (q_4, .inl (cA 0, 20, .inl (fun _ => 0)))] H := hP
  replace hD : va_D A [(ta6, .inr (6, [.ref sR, .int nd1, .ref q_1, .ref q_4, .long (-1000000000000), .long 1000000000000, .int 100000, .int 0])), (q_1, .inl (cA 1, 20, .inr (.inl (fun _ => 0)))), (q_4, .inl (cA 0, 20, .inl (fun _ => 0)))] := hD
  refine lv_aload_n hx hb dX6_init_50 rfl (lv_at hl 0 rfl) ?_
  refine va_get (D := (dC, dI)) (ci := 6) (v := .ref q_1) (C := RX6) (T := TX6) (N := 8) hx hb hts hIX6 hown hK hP 0 rfl rfl 2 (by decide) (hts (.fieldLink RX6 9 "TraitHouse$Trait" "keptValues" "[J") (by decide +kernel)) (fun _ h9 => h9) rfl dX6_init_51 ?_
  refine lv_ldc2 hx hb hown (hts (.constantLong RX6 42 (-9000000000000000000)) (by decide +kernel)) dX6_init_54 ?_
  have hk_7 : ((-9000000000000000000) : Int64).toInt = (-9000000000000000000) := by decide
  obtain ⟨hPc, hDc, hFc, hCc⟩ := va_pre (ws' := [(q_1, .inl (cA 1, 20, .inr (.inl (fun _ => 0))))]) hP hD hS hA [1] (by decide) rfl
  refine va_callv (va_runS (As := [.ref q_1, .long (-9000000000000000000)]) (rest := []) ⟨hx, hb, hml, hown, hts⟩ (k_J7_fillL_20 l dC dI cA H.size (fun _ => 0) q_1 (-9000000000000000000) ) (va_cwS 2 hts gX6_init_J7_fill_d0a16 rfl rfl rfl (by decide +kernel) ⟨Nat.le_of_ble_eq_true rfl, Nat.le_of_ble_eq_true rfl⟩) ⟨fun a U g mk q => by obtain ⟨q0, q1, qP, qK, qD, qN⟩ := q; exact ⟨q0, q1, qP, va_K.moved (u := U) (U := U.calling g mk a) (Vm.Alike.refl U.vm) qK, qD, qN.same rfl⟩, fun U hU hW => ⟨rfl, by rw [hU], by rw [hU]; exact hPc, va_K.moved hW.alike hK, hDc.weaken (fun _ _ _ _ => trivial), hN.warm hW⟩⟩ rfl rfl hl.1 rfl (lv_room (Nat.le_of_ble_eq_true rfl)) dX6_init_57 ⟨Nat.le_of_ble_eq_true rfl, Nat.le_of_ble_eq_true rfl⟩) hS (fun q _ h => hFc q h) hFc (fun u_8 t H1 locs ht hvm hw_9 hB hz1 hk1 hS => ?_)
  obtain ⟨w_10, rfl⟩ : ∃ z, z = u_8 := ⟨_, rfl⟩
  try dsimp only at hw_9 hB
  obtain ⟨hP1, hD1⟩ := hB
  rw [ht] at hP1
  obtain ⟨hP, hD⟩ := va_join (wr := [(ta6, .inr (6, [.ref sR, .int nd1, .ref q_1, .ref q_4, .long (-1000000000000), .long 1000000000000, .int 100000, .int 0])), (q_4, .inl (cA 0, 20, .inl (fun _ => 0)))]) (w1 := [(q_1, .inl (cA 1, 20, .inr (.inl w_10)))]) hP hD [1] [0, 2] hCc rfl (by decide) (by decide) hk1 hFc hP1 hD1
  clear hz1
  generalize H1 = H at hP hS ⊢
  refine lv_aload_n hx hb dX6_init_60 rfl (lv_at hl 0 rfl) ?_
  refine va_get (D := (dC, dI)) (ci := 6) (v := .ref q_4) (C := RX6) (T := TX6) (N := 8) hx hb hts hIX6 hown hK hP 0 rfl rfl 3 (by decide) (hts (.fieldLink RX6 15 "TraitHouse$Trait" "keptMoments" "[I") (by decide +kernel)) (fun _ h9 => h9) rfl dX6_init_61 ?_
  refine lv_iconst (v := (-1)) hx hb dX6_init_64 (by decide) ?_
  have hk_11 : ((-1) : Int32).toInt = (-1) := by decide
  obtain ⟨hPc, hDc, hFc, hCc⟩ := va_pre (ws' := [(q_4, .inl (cA 0, 20, .inl (fun _ => 0)))]) hP hD hS hA [1] (by decide) rfl
  refine va_callv (va_runS (As := [.ref q_4, .int (-1)]) (rest := []) ⟨hx, hb, hml, hown, hts⟩ (k_J7_fill_20 l dC dI cA H.size (fun _ => 0) q_4 (-1) ) (va_cwS 2 hts gX6_init_J7_fill_53178 rfl rfl rfl (by decide +kernel) ⟨Nat.le_of_ble_eq_true rfl, Nat.le_of_ble_eq_true rfl⟩) ⟨fun a U g mk q => by obtain ⟨q0, q1, qP, qK, qD, qN⟩ := q; exact ⟨q0, q1, qP, va_K.moved (u := U) (U := U.calling g mk a) (Vm.Alike.refl U.vm) qK, qD, qN.same rfl⟩, fun U hU hW => ⟨rfl, by rw [hU], by rw [hU]; exact hPc, va_K.moved hW.alike hK, hDc.weaken (fun _ _ _ _ => trivial), hN.warm hW⟩⟩ rfl rfl hl.1 rfl (lv_room (Nat.le_of_ble_eq_true rfl)) dX6_init_65 ⟨Nat.le_of_ble_eq_true rfl, Nat.le_of_ble_eq_true rfl⟩) hS (fun q _ h => hFc q h) hFc (fun u_12 t H1 locs ht hvm hw_13 hB hz1 hk1 hS => ?_)
  obtain ⟨w_14, rfl⟩ : ∃ z, z = u_12 := ⟨_, rfl⟩
  try dsimp only at hw_13 hB
  obtain ⟨hP1, hD1⟩ := hB
  rw [ht] at hP1
  obtain ⟨hP, hD⟩ := va_join (wr := [(ta6, .inr (6, [.ref sR, .int nd1, .ref q_1, .ref q_4, .long (-1000000000000), .long 1000000000000, .int 100000, .int 0])), (q_1, .inl (cA 1, 20, .inr (.inl w_10)))]) (w1 := [(q_4, .inl (cA 0, 20, .inl w_14))]) hP hD [1] [0, 2] hCc rfl (by decide) (by decide) hk1 hFc hP1 hD1
  clear hz1
  generalize H1 = H at hP hS ⊢
  obtain ⟨hP9, hD9⟩ := va_pd (ws' := [(ta6, .inr (6, [.ref sR, .int nd1, .ref q_1, .ref q_4, .long (-1000000000000), .long 1000000000000, .int 100000, .int 0])), (q_1, .inl (cA 1, 20, .inr (.inl w_10))), (q_4, .inl (cA 0, 20, .inl w_14))]) hP hD [0, 1, 2] (by decide) rfl
  subst hQe
  refine W.widen (k := 2) (n := 40) (Nat.le_of_ble_eq_true rfl) (Nat.le_of_ble_eq_true rfl) ?_
  exact W.vret hx hb hr (fun t ht hW => ⟨⟨(q_1, q_4, w_10, w_14), rfl, trivial, by rw [ht]; exact hP9, hD9⟩, hS.F ht⟩) hS.2.2 dX6_init_68
