theorem dX9_feed_0 : decode cX9_feed 0 = .ok (.aload_n 0, 1) := by decide +kernel
theorem dX9_feed_1 : decode cX9_feed 1 = .ok (.getfield 164, 3) := by decide +kernel
theorem dX9_feed_4 : decode cX9_feed 4 = .ok (.bipush 20, 2) := by decide +kernel
theorem dX9_feed_6 : decode cX9_feed 6 = .ok (.iadd, 1) := by decide +kernel
theorem dX9_feed_7 : decode cX9_feed 7 = .ok (.sipush 200, 3) := by decide +kernel
theorem dX9_feed_10 : decode cX9_feed 10 = .ok (.if_icmp .le 5, 3) := by decide +kernel
theorem dX9_feed_15 : decode cX9_feed 15 = .ok (.aload_n 0, 1) := by decide +kernel
theorem dX9_feed_16 : decode cX9_feed 16 = .ok (.getfield 46, 3) := by decide +kernel
theorem dX9_feed_19 : decode cX9_feed 19 = .ok (.astore 6, 2) := by decide +kernel
theorem dX9_feed_21 : decode cX9_feed 21 = .ok (.aload 6, 2) := by decide +kernel
theorem dX9_feed_23 : decode cX9_feed 23 = .ok (.iconst 0, 1) := by decide +kernel
theorem dX9_feed_24 : decode cX9_feed 24 = .ok (.iload_n 1, 1) := by decide +kernel
theorem dX9_feed_25 : decode cX9_feed 25 = .ok (.iastore, 1) := by decide +kernel
theorem dX9_feed_26 : decode cX9_feed 26 = .ok (.aload 6, 2) := by decide +kernel
theorem dX9_feed_28 : decode cX9_feed 28 = .ok (.iconst 1, 1) := by decide +kernel
theorem dX9_feed_29 : decode cX9_feed 29 = .ok (.iload_n 2, 1) := by decide +kernel
theorem dX9_feed_30 : decode cX9_feed 30 = .ok (.iastore, 1) := by decide +kernel
theorem dX9_feed_31 : decode cX9_feed 31 = .ok (.aload 6, 2) := by decide +kernel
theorem dX9_feed_33 : decode cX9_feed 33 = .ok (.iconst 2, 1) := by decide +kernel
theorem dX9_feed_34 : decode cX9_feed 34 = .ok (.iload_n 3, 1) := by decide +kernel
theorem dX9_feed_35 : decode cX9_feed 35 = .ok (.iastore, 1) := by decide +kernel
theorem dX9_feed_36 : decode cX9_feed 36 = .ok (.aload 6, 2) := by decide +kernel
theorem dX9_feed_38 : decode cX9_feed 38 = .ok (.iconst 3, 1) := by decide +kernel
theorem dX9_feed_39 : decode cX9_feed 39 = .ok (.iload 4, 2) := by decide +kernel
theorem dX9_feed_41 : decode cX9_feed 41 = .ok (.iastore, 1) := by decide +kernel
theorem dX9_feed_42 : decode cX9_feed 42 = .ok (.aload 6, 2) := by decide +kernel
theorem dX9_feed_44 : decode cX9_feed 44 = .ok (.iconst 4, 1) := by decide +kernel
theorem dX9_feed_45 : decode cX9_feed 45 = .ok (.iload 5, 2) := by decide +kernel
theorem dX9_feed_47 : decode cX9_feed 47 = .ok (.iastore, 1) := by decide +kernel
theorem dX9_feed_48 : decode cX9_feed 48 = .ok (.iconst 0, 1) := by decide +kernel
theorem dX9_feed_49 : decode cX9_feed 49 = .ok (.istore 7, 2) := by decide +kernel
theorem dX9_feed_51 : decode cX9_feed 51 = .ok (.iload 7, 2) := by decide +kernel
theorem dX9_feed_53 : decode cX9_feed 53 = .ok (.bipush 20, 2) := by decide +kernel
theorem dX9_feed_55 : decode cX9_feed 55 = .ok (.if_icmp .ge 40, 3) := by decide +kernel
theorem dX9_feed_95 : decode cX9_feed 95 = .ok (.aload_n 0, 1) := by decide +kernel
theorem dX9_feed_96 : decode cX9_feed 96 = .ok (.dup, 1) := by decide +kernel
theorem dX9_feed_97 : decode cX9_feed 97 = .ok (.getfield 164, 3) := by decide +kernel
theorem dX9_feed_100 : decode cX9_feed 100 = .ok (.bipush 20, 2) := by decide +kernel
theorem dX9_feed_102 : decode cX9_feed 102 = .ok (.iadd, 1) := by decide +kernel
theorem dX9_feed_103 : decode cX9_feed 103 = .ok (.putfield 164, 3) := by decide +kernel
theorem dX9_feed_106 : decode cX9_feed 106 = .ok (.aload_n 0, 1) := by decide +kernel
theorem dX9_feed_107 : decode cX9_feed 107 = .ok (.getfield 164, 3) := by decide +kernel
theorem dX9_feed_110 : decode cX9_feed 110 = .ok (.ireturn, 1) := by decide +kernel
theorem dX9_feed_58 : decode cX9_feed 58 = .ok (.aload_n 0, 1) := by decide +kernel
theorem dX9_feed_59 : decode cX9_feed 59 = .ok (.getfield 38, 3) := by decide +kernel
theorem dX9_feed_62 : decode cX9_feed 62 = .ok (.aload_n 0, 1) := by decide +kernel
theorem dX9_feed_63 : decode cX9_feed 63 = .ok (.getfield 164, 3) := by decide +kernel
theorem dX9_feed_66 : decode cX9_feed 66 = .ok (.iload 7, 2) := by decide +kernel
theorem dX9_feed_68 : decode cX9_feed 68 = .ok (.iadd, 1) := by decide +kernel
theorem dX9_feed_69 : decode cX9_feed 69 = .ok (.aload 6, 2) := by decide +kernel
theorem dX9_feed_71 : decode cX9_feed 71 = .ok (.iload 7, 2) := by decide +kernel
theorem dX9_feed_73 : decode cX9_feed 73 = .ok (.iconst 4, 1) := by decide +kernel
theorem dX9_feed_74 : decode cX9_feed 74 = .ok (.idiv, 1) := by decide +kernel
theorem dX9_feed_75 : decode cX9_feed 75 = .ok (.iaload, 1) := by decide +kernel
theorem dX9_feed_76 : decode cX9_feed 76 = .ok (.bipush 24, 2) := by decide +kernel
theorem dX9_feed_78 : decode cX9_feed 78 = .ok (.bipush 8, 2) := by decide +kernel
theorem dX9_feed_80 : decode cX9_feed 80 = .ok (.iload 7, 2) := by decide +kernel
theorem dX9_feed_82 : decode cX9_feed 82 = .ok (.iconst 4, 1) := by decide +kernel
theorem dX9_feed_83 : decode cX9_feed 83 = .ok (.irem, 1) := by decide +kernel
theorem dX9_feed_84 : decode cX9_feed 84 = .ok (.imul, 1) := by decide +kernel
theorem dX9_feed_85 : decode cX9_feed 85 = .ok (.isub, 1) := by decide +kernel
theorem dX9_feed_86 : decode cX9_feed 86 = .ok (.ishr, 1) := by decide +kernel
theorem dX9_feed_87 : decode cX9_feed 87 = .ok (.i2b, 1) := by decide +kernel
theorem dX9_feed_88 : decode cX9_feed 88 = .ok (.bastore, 1) := by decide +kernel
theorem dX9_feed_89 : decode cX9_feed 89 = .ok (.iinc 7 1, 3) := by decide +kernel
theorem dX9_feed_92 : decode cX9_feed 92 = .ok (.goto (-41), 3) := by decide +kernel
theorem dX9_feed_13 : decode cX9_feed 13 = .ok (.iconst (-1), 1) := by decide +kernel
theorem dX9_feed_14 : decode cX9_feed 14 = .ok (.ireturn, 1) := by decide +kernel
theorem dX9_limit_0 : decode cX9_limit 0 = .ok (.iload_n 2, 1) := by decide +kernel
theorem dX9_limit_1 : decode cX9_limit 1 = .ok (.i2l, 1) := by decide +kernel
theorem dX9_limit_2 : decode cX9_limit 2 = .ok (.lconst 0, 1) := by decide +kernel
theorem dX9_limit_3 : decode cX9_limit 3 = .ok (.ldc2_w 125, 3) := by decide +kernel
set_option maxRecDepth 20000 in
theorem ggX9_limit_X9_in : GoodIn wsX9_limit wsX9_in := goodIn_r _ [6] (by decide +kernel) (by decide +kernel)
set_option maxRecDepth 20000 in
theorem gX9_limit_X9_in : GoodIn wsX9_limit (va_wsS RX9 127 yX9_in wsX9_in) := goodIn_app (goodIn_of _ (by decide +kernel)) ggX9_limit_X9_in
theorem dX9_limit_6 : decode cX9_limit 6 = .ok (.invokestatic 127, 3) := by decide +kernel
theorem dX9_limit_9 : decode cX9_limit 9 = .ok (.ifCond .ne 9, 3) := by decide +kernel
theorem dX9_limit_18 : decode cX9_limit 18 = .ok (.aload_n 0, 1) := by decide +kernel
theorem dX9_limit_19 : decode cX9_limit 19 = .ok (.iload_n 1, 1) := by decide +kernel
set_option maxRecDepth 20000 in
theorem ggX9_limit_X9_isTrait : GoodIn wsX9_limit wsX9_isTrait := goodIn_r _ [15, 16, 3, 4, 5, 6, 17, 18, 19, 20, 21, 22, 23, 24, 25, 26, 27, 28, 29, 30, 31, 32, 33, 34, 35, 36, 37, 38, 39, 40, 41, 42, 43, 44, 45, 46, 47, 48, 49, 50, 51, 52, 53, 54, 55, 56, 57, 58, 59, 60, 61, 62, 63, 64, 65, 66, 67] (by decide +kernel) (by decide +kernel)
set_option maxRecDepth 20000 in
theorem gX9_limit_X9_isTrait : GoodIn wsX9_limit (wsV RX9 297 RX9 yX9_isTrait wsX9_isTrait) := goodIn_app (goodIn_of _ (by decide +kernel)) ggX9_limit_X9_isTrait
theorem dX9_limit_20 : decode cX9_limit 20 = .ok (.invokevirtual 297, 3) := by decide +kernel
theorem dX9_limit_23 : decode cX9_limit 23 = .ok (.ifCond .ne 10, 3) := by decide +kernel
theorem dX9_limit_33 : decode cX9_limit 33 = .ok (.aload_n 0, 1) := by decide +kernel
theorem dX9_limit_34 : decode cX9_limit 34 = .ok (.getfield 83, 3) := by decide +kernel
theorem dX9_limit_37 : decode cX9_limit 37 = .ok (.iload_n 1, 1) := by decide +kernel
theorem dX9_limit_38 : decode cX9_limit 38 = .ok (.iaload, 1) := by decide +kernel
theorem dX9_limit_39 : decode cX9_limit 39 = .ok (.istore_n 3, 1) := by decide +kernel
theorem dX9_limit_40 : decode cX9_limit 40 = .ok (.aload_n 0, 1) := by decide +kernel
theorem dX9_limit_41 : decode cX9_limit 41 = .ok (.getfield 83, 3) := by decide +kernel
theorem dX9_limit_44 : decode cX9_limit 44 = .ok (.iload_n 1, 1) := by decide +kernel
theorem dX9_limit_45 : decode cX9_limit 45 = .ok (.iload_n 2, 1) := by decide +kernel
theorem dX9_limit_46 : decode cX9_limit 46 = .ok (.iastore, 1) := by decide +kernel
theorem dX9_limit_47 : decode cX9_limit 47 = .ok (.aload_n 0, 1) := by decide +kernel
theorem dX9_limit_48 : decode cX9_limit 48 = .ok (.iload_n 3, 1) := by decide +kernel
set_option maxRecDepth 20000 in
theorem ggX9_limit_X9_ends : GoodIn wsX9_limit wsX9_ends := goodIn_r _ [10, 11, 17, 18, 19, 20, 21, 22, 23, 24, 25, 26, 27, 28, 29, 30, 31, 32, 33, 34, 35, 36, 37, 38, 39, 40, 41, 42, 43, 44, 45, 46, 47, 48, 49, 50, 51, 52, 53, 54, 55, 56, 57, 58, 59, 60, 61, 62, 63, 64, 65, 66, 67] (by decide +kernel) (by decide +kernel)
set_option maxRecDepth 20000 in
theorem gX9_limit_X9_ends : GoodIn wsX9_limit (wsV RX9 136 RX9 yX9_ends wsX9_ends) := goodIn_app (goodIn_of _ (by decide +kernel)) ggX9_limit_X9_ends
theorem dX9_limit_49 : decode cX9_limit 49 = .ok (.invokevirtual 136, 3) := by decide +kernel
theorem dX9_limit_52 : decode cX9_limit 52 = .ok (.ireturn, 1) := by decide +kernel
theorem dX9_limit_26 : decode cX9_limit 26 = .ok (.aload_n 0, 1) := by decide +kernel
theorem dX9_limit_27 : decode cX9_limit 27 = .ok (.bipush (-2), 2) := by decide +kernel
theorem dX9_limit_29 : decode cX9_limit 29 = .ok (.invokevirtual 136, 3) := by decide +kernel
theorem dX9_limit_32 : decode cX9_limit 32 = .ok (.ireturn, 1) := by decide +kernel
theorem dX9_limit_12 : decode cX9_limit 12 = .ok (.aload_n 0, 1) := by decide +kernel
theorem dX9_limit_13 : decode cX9_limit 13 = .ok (.iconst (-1), 1) := by decide +kernel
theorem dX9_limit_14 : decode cX9_limit 14 = .ok (.invokevirtual 136, 3) := by decide +kernel
theorem dX9_limit_17 : decode cX9_limit 17 = .ok (.ireturn, 1) := by decide +kernel
/-- how many of the first places of f hold 0 -/
def liv (f : Nat → Int32) : Nat → Nat
  | 0 => 0
  | n + 1 => liv f n + (if (f n).toInt = 0 then 1 else 0)
theorem liv_le (f : Nat → Int32) (n : Nat) : liv f n ≤ n := by
  induction n with
  | zero => exact Nat.le_refl 0
  | succ n ih =>
    show liv f n + _ ≤ n + 1
    split <;> omega
theorem liv_step0 {f : Nat → Int32} {i j x n n2 : Int32} (h : n.toInt = (liv f i.toInt.toNat : Int)) (h0 : 0 ≤ i.toInt) (e : x = f i.toNatClampNeg) (hj : j.toInt = i.toInt + 1) (hx : ¬ x.toInt = 0) (hn : n2.toInt = n.toInt) : n2.toInt = (liv f j.toInt.toNat : Int) := by
  have e1 : j.toInt.toNat = i.toInt.toNat + 1 := by omega
  have e2 : i.toNatClampNeg = i.toInt.toNat := rfl
  rw [e1]
  show n2.toInt = ((liv f i.toInt.toNat + (if (f i.toInt.toNat).toInt = 0 then 1 else 0) : Nat) : Int)
  rw [e2] at e
  rw [← e, if_neg hx, hn, h]
  rfl
theorem liv_step1 {f : Nat → Int32} {i j x n n2 : Int32} (h : n.toInt = (liv f i.toInt.toNat : Int)) (h0 : 0 ≤ i.toInt) (e : x = f i.toNatClampNeg) (hj : j.toInt = i.toInt + 1) (hx : x.toInt = 0) (hn : n2.toInt = n.toInt + 1) : n2.toInt = (liv f j.toInt.toNat : Int) := by
  have e1 : j.toInt.toNat = i.toInt.toNat + 1 := by omega
  have e2 : i.toNatClampNeg = i.toInt.toNat := rfl
  rw [e1]
  show n2.toInt = ((liv f i.toInt.toNat + (if (f i.toInt.toNat).toInt = 0 then 1 else 0) : Nat) : Int)
  rw [e2] at e
  rw [← e, if_pos hx, hn, h]
  rfl

/-! the bytes that feed lays -/
def byt (a : Int32) (j : Nat) : Int := nrm (a.toInt / 2 ^ (24 - 8 * j) % 256)
def w5 (a b c d e : Int32) (j : Nat) : Int := if j < 4 then byt a j else if j < 8 then byt b (j - 4) else if j < 12 then byt c (j - 8) else if j < 16 then byt d (j - 12) else byt e (j - 16)
def apl (g : Int → Int) (z : Int) (w : Nat → Int) (n : Nat) : Int → Int := fun k => if z ≤ k ∧ k < z + n then w (k - z).toNat else g k
theorem apl5 {g : Int → Int} {z : Int} {a b c d e : Int32} : apl (apl (apl (apl (apl g z (byt a) 4) (z + 4) (byt b) 4) (z + 8) (byt c) 4) (z + 12) (byt d) 4) (z + 16) (byt e) 4 = apl g z (w5 a b c d e) 20 := by
  funext k
  simp only [apl, w5]
  repeat' split
  all_goals first | rfl | (exfalso; omega) | (congr 1; omega)
def fdI (f0 f : Nat → Int32) (z : Nat) (w : Nat → Int) (n : Nat) : Prop := (∀ k, k < z → f k = f0 k) ∧ ∀ j, j < n → nrm (f (z + j)).toInt = w j
theorem fd_0 {f0 : Nat → Int32} {z : Nat} {w : Nat → Int} : fdI f0 f0 z w 0 := ⟨fun _ _ => rfl, fun j hj => absurd hj (Nat.not_lt_zero j)⟩
theorem fd_s {f0 f f2 : Nat → Int32} {z n n2 ix : Nat} {w : Nat → Int} {x : Int32} (h : fdI f0 f z w n) (ef : f2 = upd f ix x) (hi : ix = z + n) (hx : nrm x.toInt = w n) (hn : n2 = n + 1) : fdI f0 f2 z w n2 := by
  subst ef; subst hi; subst hn
  refine ⟨fun k hk => ?_, fun j hj => ?_⟩
  · rw [pk_un (by omega)]; exact h.1 k hk
  · by_cases q : j = n
    · subst q; rw [pk_us]; exact hx
    · rw [pk_un (by omega)]; exact h.2 j (by omega)
theorem fd_e {f0 f : Nat → Int32} {z z2 : Int32} {w : Nat → Int} {n : Nat} (h : fdI f0 f z.toInt.toNat w n) (h0 : 0 ≤ z.toInt) (hz : z2.toInt = z.toInt + n) : tpe f z2 = apl (tpe f0 z) z.toInt w n := by
  funext k
  show (if 0 ≤ k ∧ k < z2.toInt then nrm (f k.toNat).toInt else 0) = (if z.toInt ≤ k ∧ k < z.toInt + n then w (k - z.toInt).toNat else (if 0 ≤ k ∧ k < z.toInt then nrm (f0 k.toNat).toInt else 0))
  by_cases q : z.toInt ≤ k ∧ k < z.toInt + n
  · rw [if_pos q, if_pos (by omega), ← h.2 (k - z.toInt).toNat (by omega), show z.toInt.toNat + (k - z.toInt).toNat = k.toNat by omega]
  · rw [if_neg q]
    by_cases q2 : 0 ≤ k ∧ k < z.toInt
    · rw [if_pos q2, if_pos (by omega), h.1 k.toNat (by omega)]
    · rw [if_neg q2, if_neg (by omega)]
theorem tpe_le {f g : Nat → Int32} {z n : Int32} (h : tpe f z = tpe g z) (hn : n.toInt ≤ z.toInt) : tpe f n = tpe g n := by
  funext k
  have hk := congrFun h k
  show (if 0 ≤ k ∧ k < n.toInt then nrm (f k.toNat).toInt else 0) = (if 0 ≤ k ∧ k < n.toInt then nrm (g k.toNat).toInt else 0)
  by_cases q : 0 ≤ k ∧ k < n.toInt
  · rw [if_pos q, if_pos q]
    have h1 : tpe f z k = nrm (f k.toNat).toInt := if_pos ⟨q.1, by omega⟩
    have h2 : tpe g z k = nrm (g k.toNat).toInt := if_pos ⟨q.1, by omega⟩
    rw [← h1, ← h2]; exact hk
  · rw [if_neg q, if_neg q]
theorem i32_nat (a : Int32) : (a.toBitVec.toNat < 2147483648 ∧ a.toInt = (a.toBitVec.toNat : Int)) ∨ (2147483648 ≤ a.toBitVec.toNat ∧ a.toInt = (a.toBitVec.toNat : Int) - 4294967296) := by
  have h1 : a.toInt = a.toBitVec.toInt := rfl
  rw [h1, BitVec.toInt_eq_toNat_cond]
  split
  · exact Or.inl ⟨by omega, rfl⟩
  · exact Or.inr ⟨by omega, rfl⟩
theorem and255 {y : Int32} {b : BitVec 32} (h : y.toBitVec = b &&& 255#32) : y.toInt = ((b.toNat % 256 : Nat) : Int) := by
  have hn : y.toBitVec.toNat = b.toNat % 256 := by
    rw [h, BitVec.toNat_and, show (255#32 : BitVec 32).toNat = 2 ^ 8 - 1 by decide, Nat.and_two_pow_sub_one_eq_mod]
  have h1 : y.toInt = y.toBitVec.toInt := rfl
  rw [h1, BitVec.toInt_eq_toNat_cond, if_pos (by omega), hn]
theorem cl_byt {a x v y i : Int32} {n : Nat} (hx : x.toInt = 8 * i.toInt) (h0 : 0 ≤ i.toInt) (h3 : i.toInt ≤ 3) (ev : v = (a.toUInt32 >>> (x.toUInt32 &&& Int32.toUInt32 31)).toInt32) (ey : y = v &&& 255) (hn : (n : Int) = 3 - i.toInt) : nrm y.toInt = byt a n := by
  have ha := i32_nat a
  have hA := a.toBitVec.isLt
  unfold byt
  rcases (show i.toInt = 0 ∨ i.toInt = 1 ∨ i.toInt = 2 ∨ i.toInt = 3 by omega) with q | q | q | q
  · obtain rfl : x = 0 := Int32.toInt_inj.mp ((show x.toInt = 0 by omega).trans (by decide))
    have hy : y.toBitVec = (a.toBitVec >>> 0) &&& 255#32 := by rw [ey, ev]; rfl
    rw [and255 hy, BitVec.toNat_ushiftRight, Nat.shiftRight_eq_div_pow, show n = 3 by omega]
    congr 1
    show ((a.toBitVec.toNat / 2 ^ 0 % 256 : Nat) : Int) = a.toInt / 1 % 256
    omega
  · obtain rfl : x = 8 := Int32.toInt_inj.mp ((show x.toInt = 8 by omega).trans (by decide))
    have hy : y.toBitVec = (a.toBitVec >>> 8) &&& 255#32 := by rw [ey, ev]; rfl
    rw [and255 hy, BitVec.toNat_ushiftRight, Nat.shiftRight_eq_div_pow, show n = 2 by omega]
    congr 1
    show ((a.toBitVec.toNat / 256 % 256 : Nat) : Int) = a.toInt / 256 % 256
    omega
  · obtain rfl : x = 16 := Int32.toInt_inj.mp ((show x.toInt = 16 by omega).trans (by decide))
    have hy : y.toBitVec = (a.toBitVec >>> 16) &&& 255#32 := by rw [ey, ev]; rfl
    rw [and255 hy, BitVec.toNat_ushiftRight, Nat.shiftRight_eq_div_pow, show n = 1 by omega]
    congr 1
    show ((a.toBitVec.toNat / 65536 % 256 : Nat) : Int) = a.toInt / 65536 % 256
    omega
  · obtain rfl : x = 24 := Int32.toInt_inj.mp ((show x.toInt = 24 by omega).trans (by decide))
    have hy : y.toBitVec = (a.toBitVec >>> 24) &&& 255#32 := by rw [ey, ev]; rfl
    rw [and255 hy, BitVec.toNat_ushiftRight, Nat.shiftRight_eq_div_pow, show n = 0 by omega]
    congr 1
    show ((a.toBitVec.toNat / 16777216 % 256 : Nat) : Int) = a.toInt / 16777216 % 256
    omega
theorem nrm_bmod (x : Int) : nrm ((x.bmod 256).bmod 256) = nrm (x % 256) := by
  rw [Int.bmod_bmod, Int.bmod_def]
  unfold nrm
  split <;> split <;> split <;> omega
theorem i8_int (x : Int32) : (vp_nar .byte x.toInt8.toInt32).toInt = (x.toInt.bmod 256).bmod 256 := by
  show (x.toInt8.toInt32.toInt8.toInt32).toInt = _
  rw [Int8.toInt_toInt32, Int32.toInt_toInt8, Int8.toInt_toInt32, Int32.toInt_toInt8]
theorem rf_byt {y s x2 x3 : Int32} {n : Nat} (hs : s.toInt = 24 - 8 * (n : Int)) (h3 : n ≤ 3) (e2 : x2 = y >>> (s &&& 31)) (e3 : x3 = x2.toInt8.toInt32) : nrm (vp_nar .byte x3).toInt = byt y n := by
  rw [e3, i8_int, nrm_bmod]
  unfold byt
  rcases (show n = 0 ∨ n = 1 ∨ n = 2 ∨ n = 3 by omega) with q | q | q | q
  · subst q
    obtain rfl : s = 24 := Int32.toInt_inj.mp ((show s.toInt = 24 by omega).trans (by decide))
    have hy : x2.toBitVec = y.toBitVec.sshiftRight 24 := by rw [e2]; rfl
    have hi : x2.toInt = y.toInt / 2 ^ 24 := by
      show x2.toBitVec.toInt = y.toBitVec.toInt / 2 ^ 24
      rw [hy, BitVec.toInt_sshiftRight, Int.shiftRight_eq_div_pow]; rfl
    rw [hi]
  · subst q
    obtain rfl : s = 16 := Int32.toInt_inj.mp ((show s.toInt = 16 by omega).trans (by decide))
    have hy : x2.toBitVec = y.toBitVec.sshiftRight 16 := by rw [e2]; rfl
    have hi : x2.toInt = y.toInt / 2 ^ 16 := by
      show x2.toBitVec.toInt = y.toBitVec.toInt / 2 ^ 16
      rw [hy, BitVec.toInt_sshiftRight, Int.shiftRight_eq_div_pow]; rfl
    rw [hi]
  · subst q
    obtain rfl : s = 8 := Int32.toInt_inj.mp ((show s.toInt = 8 by omega).trans (by decide))
    have hy : x2.toBitVec = y.toBitVec.sshiftRight 8 := by rw [e2]; rfl
    have hi : x2.toInt = y.toInt / 2 ^ 8 := by
      show x2.toBitVec.toInt = y.toBitVec.toInt / 2 ^ 8
      rw [hy, BitVec.toInt_sshiftRight, Int.shiftRight_eq_div_pow]; rfl
    rw [hi]
  · subst q
    obtain rfl : s = 0 := Int32.toInt_inj.mp ((show s.toInt = 0 by omega).trans (by decide))
    have hy : x2.toBitVec = y.toBitVec.sshiftRight 0 := by rw [e2]; rfl
    have hi : x2.toInt = y.toInt / 2 ^ 0 := by
      show x2.toBitVec.toInt = y.toBitVec.toInt / 2 ^ 0
      rw [hy, BitVec.toInt_sshiftRight, Int.shiftRight_eq_div_pow]; rfl
    rw [hi]
theorem rem4 {x i : Int32} (e : x = i - i / 4 * 4) (h0 : 0 ≤ i.toInt) (h1 : i.toInt < 1000) : x.toInt = i.toInt % 4 := by
  have hd : (i / 4).toInt = i.toInt / 4 := jI_div rfl (by decide) h0 (by decide)
  have hm : (i / 4 * 4).toInt = i.toInt / 4 * 4 := jI_mul hd (by decide) (by omega) (by omega)
  rw [e, jI_sub rfl hm (by omega) (by omega)]
  omega
/-- the word that stands at a place of the five -/
theorem five_at {f g1 g2 g3 g4 g5 : Nat → Int32} {a b c d e y i q : Int32} {n : Nat} (h1 : g1 = upd f (0 : Int32).toNatClampNeg a) (h2 : g2 = upd g1 (1 : Int32).toNatClampNeg b) (h3 : g3 = upd g2 (2 : Int32).toNatClampNeg c) (h4 : g4 = upd g3 (3 : Int32).toNatClampNeg d) (h5 : g5 = upd g4 (4 : Int32).toNatClampNeg e) (ey : y = g5 q.toNatClampNeg) (hq : q.toInt = i.toInt / 4) (h0 : 0 ≤ i.toInt) (hi : i.toInt < 20) (hn : n = i.toInt.toNat) : byt y (n % 4) = w5 a b c d e n := by
  have eq : q.toNatClampNeg = n / 4 := by have : q.toNatClampNeg = q.toInt.toNat := rfl; omega
  have k0 : (0 : Int32).toNatClampNeg = 0 := by decide
  have k1 : (1 : Int32).toNatClampNeg = 1 := by decide
  have k2 : (2 : Int32).toNatClampNeg = 2 := by decide
  have k3 : (3 : Int32).toNatClampNeg = 3 := by decide
  have k4 : (4 : Int32).toNatClampNeg = 4 := by decide
  rw [k0] at h1; rw [k1] at h2; rw [k2] at h3; rw [k3] at h4; rw [k4] at h5
  have v0 : g5 0 = a := by rw [h5, pk_un (by decide), h4, pk_un (by decide), h3, pk_un (by decide), h2, pk_un (by decide), h1, pk_us]
  have v1 : g5 1 = b := by rw [h5, pk_un (by decide), h4, pk_un (by decide), h3, pk_un (by decide), h2, pk_us]
  have v2 : g5 2 = c := by rw [h5, pk_un (by decide), h4, pk_un (by decide), h3, pk_us]
  have v3 : g5 3 = d := by rw [h5, pk_un (by decide), h4, pk_us]
  have v4 : g5 4 = e := by rw [h5, pk_us]
  unfold w5
  rw [ey, eq]
  rcases (show n / 4 = 0 ∨ n / 4 = 1 ∨ n / 4 = 2 ∨ n / 4 = 3 ∨ n / 4 = 4 by omega) with w | w | w | w | w
  · rw [w, v0, if_pos (by omega), show n % 4 = n by omega]
  · rw [w, v1, if_neg (by omega), if_pos (by omega), show n % 4 = n - 4 by omega]
  · rw [w, v2, if_neg (by omega), if_neg (by omega), if_pos (by omega), show n % 4 = n - 8 by omega]
  · rw [w, v3, if_neg (by omega), if_neg (by omega), if_neg (by omega), if_pos (by omega), show n % 4 = n - 12 by omega]
  · rw [w, v4, if_neg (by omega), if_neg (by omega), if_neg (by omega), if_neg (by omega), show n % 4 = n - 16 by omega]

set_option maxHeartbeats 8000000 in
set_option maxRecDepth 100000 in
theorem k_X9_feed (l : Launch) (dC : Nat → ClassId) (dI : Nat → Nat → Nat) (cA : Nat → ClassId) (sz : Nat) (am : Nat → Nat) (v_status : Int32) (v_now : Int32) (v_told : Int32) (v_merges : Int32) (v_taped : Int32) (v_size : Int32) (v_from : Int32) (v_to : Int32) (v_fault : Int32) (v_readFault : Int32) (v_traits : Int32) (v_length : Int32) (v_open : Int32) (v_leaks : Int32) (v_places : Int32) (v_models : Int32) (f_tape : Nat → Int32) (f_five : Nat → Int32) (a : Int32) (b : Int32) (d : Int32) (e1 : Int32) (e2 : Int32) (i_v_now : 0 ≤ v_now.toInt ∧ v_now.toInt ≤ 100000) (i_v_told : 0 ≤ v_told.toInt ∧ v_told.toInt ≤ 400) (i_v_taped : 0 ≤ v_taped.toInt ∧ v_taped.toInt ≤ 200) (i_v_size : 0 ≤ v_size.toInt ∧ v_size.toInt ≤ 200) (i_v_from : 0 ≤ v_from.toInt ∧ v_from.toInt ≤ 200) (i_v_to : 0 ≤ v_to.toInt ∧ v_to.toInt ≤ 200) (i_v_traits : 0 ≤ v_traits.toInt ∧ v_traits.toInt ≤ 20) (i_v_length : 0 ≤ v_length.toInt ∧ v_length.toInt ≤ 200) (i_v_open : 0 ≤ v_open.toInt ∧ v_open.toInt ≤ 8) (i_v_places : 0 ≤ v_places.toInt ∧ v_places.toInt ≤ 2000) (i_v_models : 0 ≤ v_models.toInt ∧ v_models.toInt ≤ 10)  : Met l yX9_feed wsX9_feed ({ frames := 0, cells := 0, slots := 0, locals := 0 }) (va_Pc [.ref (am 0), .int a, .int b, .int d, .int e1, .int e2] (fun U => U.heap.size = sz ∧ va_P (dC, dI) vwCl [((am 0), .inr (9, F9 am v_status v_now v_told v_merges v_taped v_size v_from v_to v_fault v_readFault v_traits v_length v_open v_leaks v_places v_models)), ((am 10), .inl (cA 3, 200, .inl f_tape)), ((am 11), .inl (cA 0, 5, .inl f_five))] U.heap ∧ va_K (dC, dI) vwCl (tyL cA) U ∧ va_D (fun _ => True) [((am 0), .inr (9, F9 am v_status v_now v_told v_merges v_taped v_size v_from v_to v_fault v_readFault v_traits v_length v_open v_leaks v_places v_models)), ((am 10), .inl (cA 3, 200, .inl f_tape)), ((am 11), .inl (cA 0, 5, .inl f_five))] ∧ nw_ok U)) (va_Qi (fun (r : Int32) (u : Int32 × (Nat → Int32) × (Nat → Int32)) => (0 ≤ u.1.toInt ∧ u.1.toInt ≤ 200) ∧ ((v_taped.toInt + 20 ≤ 200 → r.toInt = v_taped.toInt + 20 ∧ u.1.toInt = v_taped.toInt + 20) ∧ (¬ v_taped.toInt + 20 ≤ 200 → r.toInt = (-1) ∧ u.1.toInt = v_taped.toInt)) ∧ ((v_taped.toInt + 20 ≤ 200 → tpe u.2.1 u.1 = apl (tpe f_tape v_taped) v_taped.toInt (w5 a b d e1 e2) 20) ∧ (¬ v_taped.toInt + 20 ≤ 200 → u.2.1 = f_tape))) (fun (u : Int32 × (Nat → Int32) × (Nat → Int32)) (t : State) => va_P (dC, dI) vwCl [((am 0), .inr (9, F9 am v_status v_now v_told v_merges u.1 v_size v_from v_to v_fault v_readFault v_traits v_length v_open v_leaks v_places v_models)), ((am 10), .inl (cA 3, 200, .inl u.2.1)), ((am 11), .inl (cA 0, 5, .inl u.2.2))] t.heap ∧ va_D (va_A [((am 0), .inr (9, F9 am v_status v_now v_told v_merges v_taped v_size v_from v_to v_fault v_readFault v_traits v_length v_open v_leaks v_places v_models)), ((am 10), .inl (cA 3, 200, .inl f_tape)), ((am 11), .inl (cA 0, 5, .inl f_five))] sz) [((am 0), .inr (9, F9 am v_status v_now v_told v_merges u.1 v_size v_from v_to v_fault v_readFault v_traits v_length v_open v_leaks v_places v_models)), ((am 10), .inl (cA 3, 200, .inl u.2.1)), ((am 11), .inl (cA 0, 5, .inl u.2.2))]) (va_A [((am 0), .inr (9, F9 am v_status v_now v_told v_merges v_taped v_size v_from v_to v_fault v_readFault v_traits v_length v_open v_leaks v_places v_models)), ((am 10), .inl (cA 3, 200, .inl f_tape)), ((am 11), .inl (cA 0, 5, .inl f_five))] sz)) 0 0 (va_A [((am 0), .inr (9, F9 am v_status v_now v_told v_merges v_taped v_size v_from v_to v_fault v_readFault v_traits v_length v_open v_leaks v_places v_models)), ((am 10), .inl (cA 3, 200, .inl f_tape)), ((am 11), .inl (cA 0, 5, .inl f_five))] sz) := by
  refine Met.ofW (cc := cX9_feed) (maxL := 8) (ret := (some .int)) (by decide) rfl ?_
  intro p e s m args below meth c s₁ B hml hv
  obtain ⟨rfl, hsz, hP, hK, hD0, hN⟩ := hv
  have hx := B.exec
  have hb := B.bytes
  have hr := B.returns
  have hts := atoms_spec (ws := wsX9_feed) B.pre
  have hown : s.vm.findClass RX9 = some m.cls := findClass_of_methodNamed B.named
  have hlocks := B.notSynchronized
  subst hsz
  have hD := hD0.self (sz := s.heap.size)
  generalize hAe : va_A [((am 0), .inr (9, F9 am v_status v_now v_told v_merges v_taped v_size v_from v_to v_fault v_readFault v_traits v_length v_open v_leaks v_places v_models)), ((am 10), .inl (cA 3, 200, .inl f_tape)), ((am 11), .inl (cA 0, 5, .inl f_five))] s.heap.size = A at hD ⊢
  have hA : ∀ q : Nat, s.heap.size ≤ q → A q := fun q h => by rw [← hAe]; exact Or.inr h
  have hS : va_S A s.heap s.heap [] := va_S.rf
  have hIX9 : ∀ w ∈ u_ws RX9 TX9 51, w ∈ wsX9_feed := by decide +kernel
  have hl := lv_entry ([.ref (am 0), .int a, .int b, .int d, .int e1, .int e2]) (n := 8) (Nat.le_of_ble_eq_true rfl)
  rw [lg_entry_eq]
  generalize (lg_sl ([.ref (am 0), .int a, .int b, .int d, .int e1, .int e2]) ++ List.replicate (8 - (lg_sl ([.ref (am 0), .int a, .int b, .int d, .int e1, .int e2])).length) Slot.unset).toArray = ls at hl ⊢
  have hl : lv_has ls 8 [(0, .ref (am 0)), (1, .int a), (2, .int b), (3, .int d), (4, .int e1), (5, .int e2)] := hl
  generalize hQe : MQ below _ _ _ _ _ _ = QQ
  refine lv_aload_n hx hb dX9_feed_0 rfl (lv_at hl 0 rfl) ?_
  refine va_get (D := (dC, dI)) (ci := 9) (v := .int v_taped) (C := RX9) (T := TX9) (N := 51) hx hb hts hIX9 hown hK hP 0 rfl rfl 14 (by decide) (hts (.fieldLink RX9 164 "TraitHouseModel" "taped" "I") (by decide +kernel)) (fun _ h9 => h9) rfl dX9_feed_1 ?_
  refine lv_bipush (v := 20) hx hb dX9_feed_4 (by decide) ?_
  refine lv_iadd hx hb dX9_feed_6 ?_
  refine lv_topi (fun x_1 ex_1 => ?_)
  have dx_1 : x_1.toInt = v_taped.toInt + 20 := by rw [ex_1]; exact jI_add rfl (by decide) (by omega) (by omega)
  refine lv_sipush (v := 200) hx hb dX9_feed_7 (by decide) ?_
  refine lv_icmp_le (tgt := 15) hx hb dX9_feed_10 (by decide) (fun c_2 => ?_) (fun c_2 => ?_)
  · have dc_2 : x_1.toInt ≤ 200 := jI_le c_2 rfl (by decide)
    refine lv_aload_n hx hb dX9_feed_15 rfl (lv_at hl 0 rfl) ?_
    refine va_get (D := (dC, dI)) (ci := 9) (v := .ref (am 11)) (C := RX9) (T := TX9) (N := 51) hx hb hts hIX9 hown hK hP 0 rfl rfl 20 (by decide) (hts (.fieldLink RX9 46 "TraitHouseModel" "five" "[I") (by decide +kernel)) (fun _ h9 => h9) rfl dX9_feed_16 ?_
    refine lv_astore (lv' := [(6, .ref (am 11)), (0, .ref (am 0)), (1, .int a), (2, .int b), (3, .int d), (4, .int e1), (5, .int e2)]) hx hb dX9_feed_19 hl (by decide) rfl (fun ls hl => ?_)
    refine lv_aload hx hb dX9_feed_21 (lv_at hl 0 rfl) ?_
    refine lv_iconst (v := 0) hx hb dX9_feed_23 (by decide) ?_
    refine lv_iload_n hx hb dX9_feed_24 rfl (lv_at hl 2 rfl) ?_
    have h_3 : vp_in 0 5 := (vp_in_iff.mpr ⟨by decide, by decide⟩)
    refine va_iast hx hb hK hP hD hS 2 0 rfl rfl h_3 dX9_feed_25 (fun H locs hP hD hS => ?_)
    replace hP : va_P (dC, dI) vwCl [((am 0), .inr (9, F9 am v_status v_now v_told v_merges v_taped v_size v_from v_to v_fault v_readFault v_traits v_length v_open v_leaks v_places v_models)), ((am 10), .inl (cA 3, 200, .inl f_tape)), ((am 11), .inl (cA 0, 5, .inl (upd f_five (0 : Int32).toNatClampNeg a)))] H := hP
    replace hD : va_D A [((am 0), .inr (9, F9 am v_status v_now v_told v_merges v_taped v_size v_from v_to v_fault v_readFault v_traits v_length v_open v_leaks v_places v_models)), ((am 10), .inl (cA 3, 200, .inl f_tape)), ((am 11), .inl (cA 0, 5, .inl (upd f_five (0 : Int32).toNatClampNeg a)))] := hD
    obtain ⟨g_4, eg_4⟩ : ∃ g : Nat → Int32, g = upd f_five (0 : Int32).toNatClampNeg a := ⟨_, rfl⟩
    rw [← eg_4] at hP hD
    refine lv_aload hx hb dX9_feed_26 (lv_at hl 0 rfl) ?_
    refine lv_iconst (v := 1) hx hb dX9_feed_28 (by decide) ?_
    refine lv_iload_n hx hb dX9_feed_29 rfl (lv_at hl 3 rfl) ?_
    have h_5 : vp_in 1 5 := (vp_in_iff.mpr ⟨by decide, by decide⟩)
    refine va_iast hx hb hK hP hD hS 2 0 rfl rfl h_5 dX9_feed_30 (fun H locs hP hD hS => ?_)
    replace hP : va_P (dC, dI) vwCl [((am 0), .inr (9, F9 am v_status v_now v_told v_merges v_taped v_size v_from v_to v_fault v_readFault v_traits v_length v_open v_leaks v_places v_models)), ((am 10), .inl (cA 3, 200, .inl f_tape)), ((am 11), .inl (cA 0, 5, .inl (upd g_4 (1 : Int32).toNatClampNeg b)))] H := hP
    replace hD : va_D A [((am 0), .inr (9, F9 am v_status v_now v_told v_merges v_taped v_size v_from v_to v_fault v_readFault v_traits v_length v_open v_leaks v_places v_models)), ((am 10), .inl (cA 3, 200, .inl f_tape)), ((am 11), .inl (cA 0, 5, .inl (upd g_4 (1 : Int32).toNatClampNeg b)))] := hD
    obtain ⟨g_6, eg_6⟩ : ∃ g : Nat → Int32, g = upd g_4 (1 : Int32).toNatClampNeg b := ⟨_, rfl⟩
    rw [← eg_6] at hP hD
    refine lv_aload hx hb dX9_feed_31 (lv_at hl 0 rfl) ?_
    refine lv_iconst (v := 2) hx hb dX9_feed_33 (by decide) ?_
    refine lv_iload_n hx hb dX9_feed_34 rfl (lv_at hl 4 rfl) ?_
    have h_7 : vp_in 2 5 := (vp_in_iff.mpr ⟨by decide, by decide⟩)
    refine va_iast hx hb hK hP hD hS 2 0 rfl rfl h_7 dX9_feed_35 (fun H locs hP hD hS => ?_)
    replace hP : va_P (dC, dI) vwCl [((am 0), .inr (9, F9 am v_status v_now v_told v_merges v_taped v_size v_from v_to v_fault v_readFault v_traits v_length v_open v_leaks v_places v_models)), ((am 10), .inl (cA 3, 200, .inl f_tape)), ((am 11), .inl (cA 0, 5, .inl (upd g_6 (2 : Int32).toNatClampNeg d)))] H := hP
    replace hD : va_D A [((am 0), .inr (9, F9 am v_status v_now v_told v_merges v_taped v_size v_from v_to v_fault v_readFault v_traits v_length v_open v_leaks v_places v_models)), ((am 10), .inl (cA 3, 200, .inl f_tape)), ((am 11), .inl (cA 0, 5, .inl (upd g_6 (2 : Int32).toNatClampNeg d)))] := hD
    obtain ⟨g_8, eg_8⟩ : ∃ g : Nat → Int32, g = upd g_6 (2 : Int32).toNatClampNeg d := ⟨_, rfl⟩
    rw [← eg_8] at hP hD
    refine lv_aload hx hb dX9_feed_36 (lv_at hl 0 rfl) ?_
    refine lv_iconst (v := 3) hx hb dX9_feed_38 (by decide) ?_
    refine lv_iload hx hb dX9_feed_39 (lv_at hl 5 rfl) ?_
    have h_9 : vp_in 3 5 := (vp_in_iff.mpr ⟨by decide, by decide⟩)
    refine va_iast hx hb hK hP hD hS 2 0 rfl rfl h_9 dX9_feed_41 (fun H locs hP hD hS => ?_)
    replace hP : va_P (dC, dI) vwCl [((am 0), .inr (9, F9 am v_status v_now v_told v_merges v_taped v_size v_from v_to v_fault v_readFault v_traits v_length v_open v_leaks v_places v_models)), ((am 10), .inl (cA 3, 200, .inl f_tape)), ((am 11), .inl (cA 0, 5, .inl (upd g_8 (3 : Int32).toNatClampNeg e1)))] H := hP
    replace hD : va_D A [((am 0), .inr (9, F9 am v_status v_now v_told v_merges v_taped v_size v_from v_to v_fault v_readFault v_traits v_length v_open v_leaks v_places v_models)), ((am 10), .inl (cA 3, 200, .inl f_tape)), ((am 11), .inl (cA 0, 5, .inl (upd g_8 (3 : Int32).toNatClampNeg e1)))] := hD
    obtain ⟨g_10, eg_10⟩ : ∃ g : Nat → Int32, g = upd g_8 (3 : Int32).toNatClampNeg e1 := ⟨_, rfl⟩
    rw [← eg_10] at hP hD
    refine lv_aload hx hb dX9_feed_42 (lv_at hl 0 rfl) ?_
    refine lv_iconst (v := 4) hx hb dX9_feed_44 (by decide) ?_
    refine lv_iload hx hb dX9_feed_45 (lv_at hl 6 rfl) ?_
    have h_11 : vp_in 4 5 := (vp_in_iff.mpr ⟨by decide, by decide⟩)
    refine va_iast hx hb hK hP hD hS 2 0 rfl rfl h_11 dX9_feed_47 (fun H locs hP hD hS => ?_)
    replace hP : va_P (dC, dI) vwCl [((am 0), .inr (9, F9 am v_status v_now v_told v_merges v_taped v_size v_from v_to v_fault v_readFault v_traits v_length v_open v_leaks v_places v_models)), ((am 10), .inl (cA 3, 200, .inl f_tape)), ((am 11), .inl (cA 0, 5, .inl (upd g_10 (4 : Int32).toNatClampNeg e2)))] H := hP
    replace hD : va_D A [((am 0), .inr (9, F9 am v_status v_now v_told v_merges v_taped v_size v_from v_to v_fault v_readFault v_traits v_length v_open v_leaks v_places v_models)), ((am 10), .inl (cA 3, 200, .inl f_tape)), ((am 11), .inl (cA 0, 5, .inl (upd g_10 (4 : Int32).toNatClampNeg e2)))] := hD
    obtain ⟨g_12, eg_12⟩ : ∃ g : Nat → Int32, g = upd g_10 (4 : Int32).toNatClampNeg e2 := ⟨_, rfl⟩
    rw [← eg_12] at hP hD
    refine lv_iconst (v := 0) hx hb dX9_feed_48 (by decide) ?_
    refine lv_istore (lv' := [(7, .int 0), (6, .ref (am 11)), (0, .ref (am 0)), (1, .int a), (2, .int b), (3, .int d), (4, .int e1), (5, .int e2)]) hx hb dX9_feed_49 hl (by decide) rfl (fun ls hl => ?_)
    have loop51_13 : ∀ (n : Nat) (i7 : Int32) (w_f_tape_51 : Nat → Int32) (H : Heap) (locs : List Loc) (ls : Array Slot), 20 - i7.toInt < (n : Int) → (0 ≤ i7.toInt ∧ i7.toInt ≤ 20) → (fdI f_tape w_f_tape_51 v_taped.toInt.toNat (w5 a b d e1 e2) i7.toInt.toNat) → va_P (dC, dI) vwCl [((am 0), .inr (9, F9 am v_status v_now v_told v_merges v_taped v_size v_from v_to v_fault v_readFault v_traits v_length v_open v_leaks v_places v_models)), ((am 10), .inl (cA 3, 200, .inl w_f_tape_51)), ((am 11), .inl (cA 0, 5, .inl g_12))] H → va_D A [((am 0), .inr (9, F9 am v_status v_now v_told v_merges v_taped v_size v_from v_to v_fault v_readFault v_traits v_length v_open v_leaks v_places v_models)), ((am 10), .inl (cA 3, 200, .inl w_f_tape_51)), ((am 11), .inl (cA 0, 5, .inl g_12))] → va_S A s.heap H locs → lv_has ls 8 [(7, .int i7), (6, .ref (am 11)), (0, .ref (am 0)), (1, .int a), (2, .int b), (3, .int d), (4, .int e1), (5, .int e2)] → W p l e ({ frames := 0, cells := 0, slots := 0, locals := 0 }) s m ([.ref (am 0), .int a, .int b, .int d, .int e1, .int e2] : List Value).toArray below meth c H locs 0 0 QQ (F0 m 51 ls []) := by
      intro n
      induction n with
      | zero => intro i7 w_f_tape_51 H locs ls hme hv0_51 hv1_51; exfalso; omega
      | succ n ih_51 =>
        intro i7 w_f_tape_51 H locs ls hme_51 hv0_51 hv1_51 hP hD hS hl
        refine lv_iload hx hb dX9_feed_51 (lv_at hl 0 rfl) ?_
        refine lv_bipush (v := 20) hx hb dX9_feed_53 (by decide) ?_
        refine lv_icmp_ge (tgt := 95) hx hb dX9_feed_55 (by decide) (fun c_14 => ?_) (fun c_14 => ?_)
        · have dc_14 : 20 ≤ i7.toInt := jI_le c_14 (by decide) rfl
          refine lv_aload_n hx hb dX9_feed_95 rfl (lv_at hl 2 rfl) ?_
          refine lv_dup hx hb dX9_feed_96 rfl ?_
          refine va_get (D := (dC, dI)) (ci := 9) (v := .int v_taped) (C := RX9) (T := TX9) (N := 51) hx hb hts hIX9 hown hK hP 0 rfl rfl 14 (by decide) (hts (.fieldLink RX9 164 "TraitHouseModel" "taped" "I") (by decide +kernel)) (fun _ h9 => h9) rfl dX9_feed_97 ?_
          refine lv_bipush (v := 20) hx hb dX9_feed_100 (by decide) ?_
          refine lv_iadd hx hb dX9_feed_102 ?_
          refine lv_topi (fun x_15 ex_15 => ?_)
          have dx_15 : x_15.toInt = v_taped.toInt + 20 := by rw [ex_15]; exact jI_add rfl (by decide) (by omega) (by omega)
          refine va_put (D := (dC, dI)) (ci := 9) (v := .int x_15) (ty := .int) (C := RX9) (T := TX9) (N := 51) hx hb hts hIX9 tyX9 tyX9_ok nmX9 hown hK hP hD hS 0 rfl rfl 14 (by decide) (hts (.fieldLink RX9 164 "TraitHouseModel" "taped" "I") (by decide +kernel)) (fun _ h9 => h9) rfl (by decide +kernel) rfl rfl (Nat.le_of_ble_eq_true rfl) dX9_feed_103 (fun H locs hP hD hS => ?_)
          replace hP : va_P (dC, dI) vwCl [((am 0), .inr (9, F9 am v_status v_now v_told v_merges x_15 v_size v_from v_to v_fault v_readFault v_traits v_length v_open v_leaks v_places v_models)), ((am 10), .inl (cA 3, 200, .inl w_f_tape_51)), ((am 11), .inl (cA 0, 5, .inl g_12))] H := hP
          replace hD : va_D A [((am 0), .inr (9, F9 am v_status v_now v_told v_merges x_15 v_size v_from v_to v_fault v_readFault v_traits v_length v_open v_leaks v_places v_models)), ((am 10), .inl (cA 3, 200, .inl w_f_tape_51)), ((am 11), .inl (cA 0, 5, .inl g_12))] := hD
          refine lv_aload_n hx hb dX9_feed_106 rfl (lv_at hl 2 rfl) ?_
          refine va_get (D := (dC, dI)) (ci := 9) (v := .int x_15) (C := RX9) (T := TX9) (N := 51) hx hb hts hIX9 hown hK hP 0 rfl rfl 14 (by decide) (hts (.fieldLink RX9 164 "TraitHouseModel" "taped" "I") (by decide +kernel)) (fun _ h9 => h9) rfl dX9_feed_107 ?_
          have hP9 := hP.sub (ws' := [((am 0), .inr (9, F9 am v_status v_now v_told v_merges x_15 v_size v_from v_to v_fault v_readFault v_traits v_length v_open v_leaks v_places v_models)), ((am 10), .inl (cA 3, 200, .inl w_f_tape_51)), ((am 11), .inl (cA 0, 5, .inl g_12))]) [0, 1, 2] rfl
          have hD9 := hD.sub (ws' := [((am 0), .inr (9, F9 am v_status v_now v_told v_merges x_15 v_size v_from v_to v_fault v_readFault v_traits v_length v_open v_leaks v_places v_models)), ((am 10), .inl (cA 3, 200, .inl w_f_tape_51)), ((am 11), .inl (cA 0, 5, .inl g_12))]) [0, 1, 2] (by decide) rfl
          subst hQe
          have hans : (x_15 : Int32).toInt = x_15.toInt := rfl
          have hpost : (0 ≤ x_15.toInt ∧ x_15.toInt ≤ 200) ∧ ((v_taped.toInt + 20 ≤ 200 → (x_15 : Int32).toInt = v_taped.toInt + 20 ∧ x_15.toInt = v_taped.toInt + 20) ∧ (¬ v_taped.toInt + 20 ≤ 200 → (x_15 : Int32).toInt = (-1) ∧ x_15.toInt = v_taped.toInt)) ∧ ((v_taped.toInt + 20 ≤ 200 → tpe w_f_tape_51 x_15 = apl (tpe f_tape v_taped) v_taped.toInt (w5 a b d e1 e2) 20) ∧ (¬ v_taped.toInt + 20 ≤ 200 → w_f_tape_51 = f_tape)) := ⟨by omega, by omega, ⟨fun _ => fd_e (n := 20) (by have h9 := hv1_51; rw [show i7.toInt.toNat = 20 by omega] at h9; exact h9) (by omega) (by omega), fun h => by exfalso; omega⟩⟩
          exact W.iret (v := x_15) hx hb hr (fun t ht hW => ⟨⟨x_15, (x_15, w_f_tape_51, g_12), rfl, hpost, by rw [ht]; exact hP9, hD9⟩, hS.F ht⟩) hS.2.2 dX9_feed_110
        · have dc_14 : i7.toInt < 20 := jI_nle c_14 (by decide) rfl
          refine lv_aload_n hx hb dX9_feed_58 rfl (lv_at hl 2 rfl) ?_
          refine va_get (D := (dC, dI)) (ci := 9) (v := .ref (am 10)) (C := RX9) (T := TX9) (N := 51) hx hb hts hIX9 hown hK hP 0 rfl rfl 13 (by decide) (hts (.fieldLink RX9 38 "TraitHouseModel" "tape" "[B") (by decide +kernel)) (fun _ h9 => h9) rfl dX9_feed_59 ?_
          refine lv_aload_n hx hb dX9_feed_62 rfl (lv_at hl 2 rfl) ?_
          refine va_get (D := (dC, dI)) (ci := 9) (v := .int v_taped) (C := RX9) (T := TX9) (N := 51) hx hb hts hIX9 hown hK hP 0 rfl rfl 14 (by decide) (hts (.fieldLink RX9 164 "TraitHouseModel" "taped" "I") (by decide +kernel)) (fun _ h9 => h9) rfl dX9_feed_63 ?_
          refine lv_iload hx hb dX9_feed_66 (lv_at hl 0 rfl) ?_
          refine lv_iadd hx hb dX9_feed_68 ?_
          refine lv_topi (fun x_16 ex_16 => ?_)
          have dx_16 : x_16.toInt = v_taped.toInt + i7.toInt := by rw [ex_16]; exact jI_add rfl rfl (by omega) (by omega)
          refine lv_aload hx hb dX9_feed_69 (lv_at hl 1 rfl) ?_
          refine lv_iload hx hb dX9_feed_71 (lv_at hl 0 rfl) ?_
          refine lv_iconst (v := 4) hx hb dX9_feed_73 (by decide) ?_
          refine lv_idiv hx hb dX9_feed_74 (by decide) ?_
          refine lv_topi (fun x_17 ex_17 => ?_)
          have dx_17 : x_17.toInt = i7.toInt / 4 := by rw [ex_17]; exact jI_div rfl (by decide) (by omega) (by decide)
          have h_18 : vp_in x_17 5 := (vp_in_iff.mpr ⟨by omega, by omega⟩)
          refine va_iald hx hb hK hP 2 0 rfl rfl h_18 dX9_feed_75 ?_
          refine lv_topi (fun x_19 ex_19 => ?_)
          refine lv_bipush (v := 24) hx hb dX9_feed_76 (by decide) ?_
          refine lv_bipush (v := 8) hx hb dX9_feed_78 (by decide) ?_
          refine lv_iload hx hb dX9_feed_80 (lv_at hl 0 rfl) ?_
          refine lv_iconst (v := 4) hx hb dX9_feed_82 (by decide) ?_
          refine lv_irem hx hb dX9_feed_83 (by decide) ?_
          refine lv_topi (fun x_20 ex_20 => ?_)
          have dx_20 : x_20.toInt = i7.toInt % 4 := rem4 ex_20 (by omega) (by omega)
          refine lv_imul hx hb dX9_feed_84 ?_
          refine lv_topi (fun x_21 ex_21 => ?_)
          have dx_21 : x_21.toInt = 8 * x_20.toInt := by rw [ex_21]; exact jI_mul (by decide) rfl (by omega) (by omega)
          refine lv_isub hx hb dX9_feed_85 ?_
          refine lv_topi (fun x_22 ex_22 => ?_)
          have dx_22 : x_22.toInt = 24 - x_21.toInt := by rw [ex_22]; exact jI_sub (by decide) rfl (by omega) (by omega)
          refine lv_ishr hx hb dX9_feed_86 ?_
          refine lv_topi (fun x_23 ex_23 => ?_)
          obtain ⟨x_24, ex_24⟩ : ∃ y : Int32, y = x_23.toInt8.toInt32 := ⟨_, rfl⟩
          refine lv_i2b (v := x_24) hx hb dX9_feed_87 ex_24.symm ?_
          have h_25 : vp_in x_16 200 := (vp_in_iff.mpr ⟨by omega, by omega⟩)
          refine va_bast hx hb hK hP hD hS 1 3 rfl rfl h_25 dX9_feed_88 (fun H locs hP hD hS => ?_)
          replace hP : va_P (dC, dI) vwCl [((am 0), .inr (9, F9 am v_status v_now v_told v_merges v_taped v_size v_from v_to v_fault v_readFault v_traits v_length v_open v_leaks v_places v_models)), ((am 10), .inl (cA 3, 200, .inl (upd w_f_tape_51 x_16.toNatClampNeg (vp_nar .byte x_24)))), ((am 11), .inl (cA 0, 5, .inl g_12))] H := hP
          replace hD : va_D A [((am 0), .inr (9, F9 am v_status v_now v_told v_merges v_taped v_size v_from v_to v_fault v_readFault v_traits v_length v_open v_leaks v_places v_models)), ((am 10), .inl (cA 3, 200, .inl (upd w_f_tape_51 x_16.toNatClampNeg (vp_nar .byte x_24)))), ((am 11), .inl (cA 0, 5, .inl g_12))] := hD
          obtain ⟨g_26, eg_26⟩ : ∃ g : Nat → Int32, g = upd w_f_tape_51 x_16.toNatClampNeg (vp_nar .byte x_24) := ⟨_, rfl⟩
          rw [← eg_26] at hP hD
          obtain ⟨x_27, ex_27⟩ : ∃ y : Int32, y = i7 + 1 := ⟨_, rfl⟩
          have dx_27 : x_27.toInt = i7.toInt + 1 := by rw [ex_27]; exact jI_add rfl (by decide) (by omega) (by omega)
          refine lv_iinc (v := x_27) (lv' := [(7, .int x_27), (6, .ref (am 11)), (0, .ref (am 0)), (1, .int a), (2, .int b), (3, .int d), (4, .int e1), (5, .int e2)]) hx hb dX9_feed_89 hl (k := 0) rfl (by rw [ex_27]; rfl) (by decide) rfl (fun ls hl => ?_)
          refine lv_goto (tgt := 51) hx hb dX9_feed_92 (by decide) ?_
          exact ih_51 x_27 g_26 _ _ ls (by omega) (by omega) (fd_s hv1_51 eg_26 (by have : x_16.toNatClampNeg = x_16.toInt.toNat := rfl; omega) (by rw [← five_at eg_4 eg_6 eg_8 eg_10 eg_12 ex_19 (q := x_17) (i := i7) (by omega) (by omega) (by omega) rfl]; exact rf_byt (by omega) (by omega) ex_23 ex_24) (by omega)) (hP.sub [0, 1, 2] rfl) (hD.sub [0, 1, 2] (by decide) rfl) hS (lv_sub hl [0, 1, 2, 3, 4, 5, 6, 7] rfl)
    have hk_28 : (0 : Int32).toInt = 0 := by decide
    exact loop51_13 (Int.toNat (20 - (0 : Int32).toInt) + 1) 0 f_tape _ _ ls (by omega) (by omega) (by rw [show (0 : Int32).toInt.toNat = 0 from rfl]; exact fd_0) hP hD hS (lv_sub hl [0, 1, 2, 3, 4, 5, 6, 7] rfl)
  · have dc_2 : 200 < x_1.toInt := jI_nle c_2 rfl (by decide)
    refine lv_iconst (v := (-1)) hx hb dX9_feed_13 (by decide) ?_
    have hP9 := hP.sub (ws' := [((am 0), .inr (9, F9 am v_status v_now v_told v_merges v_taped v_size v_from v_to v_fault v_readFault v_traits v_length v_open v_leaks v_places v_models)), ((am 10), .inl (cA 3, 200, .inl f_tape)), ((am 11), .inl (cA 0, 5, .inl f_five))]) [0, 1, 2] rfl
    have hD9 := hD.sub (ws' := [((am 0), .inr (9, F9 am v_status v_now v_told v_merges v_taped v_size v_from v_to v_fault v_readFault v_traits v_length v_open v_leaks v_places v_models)), ((am 10), .inl (cA 3, 200, .inl f_tape)), ((am 11), .inl (cA 0, 5, .inl f_five))]) [0, 1, 2] (by decide) rfl
    subst hQe
    have hans : ((-1) : Int32).toInt = (-1) := (by decide)
    have hpost : (0 ≤ v_taped.toInt ∧ v_taped.toInt ≤ 200) ∧ ((v_taped.toInt + 20 ≤ 200 → ((-1) : Int32).toInt = v_taped.toInt + 20 ∧ v_taped.toInt = v_taped.toInt + 20) ∧ (¬ v_taped.toInt + 20 ≤ 200 → ((-1) : Int32).toInt = (-1) ∧ v_taped.toInt = v_taped.toInt)) ∧ ((v_taped.toInt + 20 ≤ 200 → tpe f_tape v_taped = apl (tpe f_tape v_taped) v_taped.toInt (w5 a b d e1 e2) 20) ∧ (¬ v_taped.toInt + 20 ≤ 200 → f_tape = f_tape)) := ⟨i_v_taped, by omega, ⟨fun h => by exfalso; omega, fun _ => rfl⟩⟩
    exact W.iret (v := (-1)) hx hb hr (fun t ht hW => ⟨⟨(-1), (v_taped, f_tape, f_five), rfl, hpost, by rw [ht]; exact hP9, hD9⟩, hS.F ht⟩) hS.2.2 dX9_feed_14

set_option maxHeartbeats 8000000 in
set_option maxRecDepth 100000 in
theorem k_X9_limit (l : Launch) (dC : Nat → ClassId) (dI : Nat → Nat → Nat) (cA : Nat → ClassId) (sz : Nat) (am : Nat → Nat) (v_status : Int32) (v_now : Int32) (v_told : Int32) (v_merges : Int32) (v_taped : Int32) (v_size : Int32) (v_from : Int32) (v_to : Int32) (v_fault : Int32) (v_readFault : Int32) (v_traits : Int32) (v_length : Int32) (v_open : Int32) (v_leaks : Int32) (v_places : Int32) (v_models : Int32) (f_limits : Nat → Int32) (tt : Int32) (n : Int32) (i_v_now : 0 ≤ v_now.toInt ∧ v_now.toInt ≤ 100000) (i_v_told : 0 ≤ v_told.toInt ∧ v_told.toInt ≤ 400) (i_v_taped : 0 ≤ v_taped.toInt ∧ v_taped.toInt ≤ 200) (i_v_size : 0 ≤ v_size.toInt ∧ v_size.toInt ≤ 200) (i_v_from : 0 ≤ v_from.toInt ∧ v_from.toInt ≤ 200) (i_v_to : 0 ≤ v_to.toInt ∧ v_to.toInt ≤ 200) (i_v_traits : 0 ≤ v_traits.toInt ∧ v_traits.toInt ≤ 20) (i_v_length : 0 ≤ v_length.toInt ∧ v_length.toInt ≤ 200) (i_v_open : 0 ≤ v_open.toInt ∧ v_open.toInt ≤ 8) (i_v_places : 0 ≤ v_places.toInt ∧ v_places.toInt ≤ 2000) (i_v_models : 0 ≤ v_models.toInt ∧ v_models.toInt ≤ 10)  : Met l yX9_limit wsX9_limit ({ frames := 2, cells := 0, slots := 0, locals := 46 }) (va_Pc [.ref (am 0), .int tt, .int n] (fun U => U.heap.size = sz ∧ va_P (dC, dI) vwCl [((am 0), .inr (9, F9 am v_status v_now v_told v_merges v_taped v_size v_from v_to v_fault v_readFault v_traits v_length v_open v_leaks v_places v_models)), ((am 23), .inl (cA 0, 20, .inl f_limits))] U.heap ∧ va_K (dC, dI) vwCl (tyL cA) U ∧ va_D (fun _ => True) [((am 0), .inr (9, F9 am v_status v_now v_told v_merges v_taped v_size v_from v_to v_fault v_readFault v_traits v_length v_open v_leaks v_places v_models)), ((am 23), .inl (cA 0, 20, .inl f_limits))] ∧ nw_ok U)) (va_Qi (fun (r : Int32) (u : Int32 × (Nat → Int32)) => ((¬ (0 ≤ n.toInt ∧ n.toInt ≤ 100000) → r.toInt = (-1) ∧ u.2 = f_limits) ∧ ((0 ≤ n.toInt ∧ n.toInt ≤ 100000) ∧ ¬ (0 ≤ tt.toInt ∧ tt.toInt < v_traits.toInt) → r.toInt = (-2) ∧ u.2 = f_limits) ∧ ((0 ≤ n.toInt ∧ n.toInt ≤ 100000) ∧ (0 ≤ tt.toInt ∧ tt.toInt < v_traits.toInt) → r = f_limits tt.toNatClampNeg ∧ u.2 = upd f_limits tt.toNatClampNeg n))) (fun (u : Int32 × (Nat → Int32)) (t : State) => va_P (dC, dI) vwCl [((am 0), .inr (9, F9 am u.1 v_now v_told v_merges v_taped v_size v_from v_to v_fault v_readFault v_traits v_length v_open v_leaks v_places v_models)), ((am 23), .inl (cA 0, 20, .inl u.2))] t.heap ∧ va_D (va_A [((am 0), .inr (9, F9 am v_status v_now v_told v_merges v_taped v_size v_from v_to v_fault v_readFault v_traits v_length v_open v_leaks v_places v_models)), ((am 23), .inl (cA 0, 20, .inl f_limits))] sz) [((am 0), .inr (9, F9 am u.1 v_now v_told v_merges v_taped v_size v_from v_to v_fault v_readFault v_traits v_length v_open v_leaks v_places v_models)), ((am 23), .inl (cA 0, 20, .inl u.2))]) (va_A [((am 0), .inr (9, F9 am v_status v_now v_told v_merges v_taped v_size v_from v_to v_fault v_readFault v_traits v_length v_open v_leaks v_places v_models)), ((am 23), .inl (cA 0, 20, .inl f_limits))] sz)) 0 0 (va_A [((am 0), .inr (9, F9 am v_status v_now v_told v_merges v_taped v_size v_from v_to v_fault v_readFault v_traits v_length v_open v_leaks v_places v_models)), ((am 23), .inl (cA 0, 20, .inl f_limits))] sz) := by
  refine Met.ofW (cc := cX9_limit) (maxL := 4) (ret := (some .int)) (by decide) rfl ?_
  intro p e s m args below meth c s₁ B hml hv
  obtain ⟨rfl, hsz, hP, hK, hD0, hN⟩ := hv
  have hx := B.exec
  have hb := B.bytes
  have hr := B.returns
  have hts := atoms_spec (ws := wsX9_limit) B.pre
  have hown : s.vm.findClass RX9 = some m.cls := findClass_of_methodNamed B.named
  have hlocks := B.notSynchronized
  subst hsz
  have hD := hD0.self (sz := s.heap.size)
  generalize hAe : va_A [((am 0), .inr (9, F9 am v_status v_now v_told v_merges v_taped v_size v_from v_to v_fault v_readFault v_traits v_length v_open v_leaks v_places v_models)), ((am 23), .inl (cA 0, 20, .inl f_limits))] s.heap.size = A at hD ⊢
  have hA : ∀ q : Nat, s.heap.size ≤ q → A q := fun q h => by rw [← hAe]; exact Or.inr h
  have hS : va_S A s.heap s.heap [] := va_S.rf
  have hIX9 : ∀ w ∈ u_ws RX9 TX9 51, w ∈ wsX9_limit := by decide +kernel
  have hl := lv_entry ([.ref (am 0), .int tt, .int n]) (n := 4) (Nat.le_of_ble_eq_true rfl)
  rw [lg_entry_eq]
  generalize (lg_sl ([.ref (am 0), .int tt, .int n]) ++ List.replicate (4 - (lg_sl ([.ref (am 0), .int tt, .int n])).length) Slot.unset).toArray = ls at hl ⊢
  have hl : lv_has ls 4 [(0, .ref (am 0)), (1, .int tt), (2, .int n)] := hl
  generalize hQe : MQ below _ _ _ _ _ _ = QQ
  refine lv_iload_n hx hb dX9_limit_0 rfl (lv_at hl 2 rfl) ?_
  obtain ⟨y_1, ey_1⟩ : ∃ y : Int64, y = n.toInt64 := ⟨_, rfl⟩
  have dy_1 : y_1.toInt = n.toInt := by rw [ey_1]; exact Int32.toInt_toInt64 _
  refine lv_i2l (v := y_1) hx hb dX9_limit_1 ey_1.symm ?_
  refine lv_lconst (v := 0) hx hb dX9_limit_2 (by decide) ?_
  refine lv_ldc2 hx hb hown (hts (.constantLong RX9 125 (100000)) (by decide +kernel)) dX9_limit_3 ?_
  have hk_2 : (0 : Int64).toInt = 0 := by decide
  have hk_3 : (100000 : Int64).toInt = 100000 := by decide
  have hPc := hP.sub (ws' := []) [] rfl
  have hDc := hD.sub (ws' := []) [] (by decide) rfl
  have hFc := va_free (wc := []) hD hS hA [] rfl
  refine va_calli (va_runS (As := [.long y_1, .long 0, .long 100000]) (rest := []) ⟨hx, hb, hml, hown, hts⟩ (k_X9_in l dC dI cA s.heap.size y_1 0 100000 ) (va_cwS 3 hts gX9_limit_X9_in rfl rfl rfl (by decide +kernel) ⟨Nat.le_of_ble_eq_true rfl, Nat.le_of_ble_eq_true rfl⟩) ⟨fun a U g mk q => by obtain ⟨q0, q1, qP, qK, qD, qN⟩ := q; exact ⟨q0, q1, qP, va_K.moved (u := U) (U := U.calling g mk a) (Vm.Alike.refl U.vm) qK, qD, qN.same rfl⟩, fun U hU hW => ⟨rfl, by rw [hU], by rw [hU]; exact hPc, va_K.moved hW.alike hK, hDc.weaken (fun _ _ _ _ => trivial), hN.warm hW⟩⟩ rfl rfl hl.1 rfl (lv_room (Nat.le_of_ble_eq_true rfl)) dX9_limit_6 ⟨Nat.le_of_ble_eq_true rfl, Nat.le_of_ble_eq_true rfl⟩) hS (fun q _ h => hFc q h) hFc (fun r_4 u_5 t H1 locs ht hvm hw_6 hB hz1 hk1 hS => ?_)
  try dsimp only at hw_6 hB
  have po_7 := hw_6
  try simp only [hk_2, hk_3] at po_7
  obtain ⟨hP1, hD1⟩ := hB
  rw [ht] at hP1
  obtain ⟨hP, hD⟩ := va_join (wr := [((am 0), .inr (9, F9 am v_status v_now v_told v_merges v_taped v_size v_from v_to v_fault v_readFault v_traits v_length v_open v_leaks v_places v_models)), ((am 23), .inl (cA 0, 20, .inl f_limits))]) (w1 := []) hP hD [] [0, 1] rfl rfl (by decide) (by decide) hk1 hFc hP1 hD1
  clear hz1
  generalize H1 = H at hP hS ⊢
  replace hP : va_P (dC, dI) vwCl [((am 0), .inr (9, F9 am v_status v_now v_told v_merges v_taped v_size v_from v_to v_fault v_readFault v_traits v_length v_open v_leaks v_places v_models)), ((am 23), .inl (cA 0, 20, .inl f_limits))] H := hP
  replace hD : va_D A [((am 0), .inr (9, F9 am v_status v_now v_told v_merges v_taped v_size v_from v_to v_fault v_readFault v_traits v_length v_open v_leaks v_places v_models)), ((am 23), .inl (cA 0, 20, .inl f_limits))] := hD
  refine lv_if_ne (tgt := 18) hx hb dX9_limit_9 (by decide) (fun c_8 => ?_) (fun c_8 => ?_)
  · have dc_8 : ¬ r_4.toInt = 0 := jI_ne c_8 rfl (by decide)
    refine lv_aload_n hx hb dX9_limit_18 rfl (lv_at hl 0 rfl) ?_
    refine lv_iload_n hx hb dX9_limit_19 rfl (lv_at hl 1 rfl) ?_
    have hPc := hP.sub (ws' := [((am 0), .inr (9, F9 am v_status v_now v_told v_merges v_taped v_size v_from v_to v_fault v_readFault v_traits v_length v_open v_leaks v_places v_models))]) [0] rfl
    have hDc := hD.sub (ws' := [((am 0), .inr (9, F9 am v_status v_now v_told v_merges v_taped v_size v_from v_to v_fault v_readFault v_traits v_length v_open v_leaks v_places v_models))]) [0] (by decide) rfl
    have hFc := va_free (wc := [((am 0), .inr (9, F9 am v_status v_now v_told v_merges v_taped v_size v_from v_to v_fault v_readFault v_traits v_length v_open v_leaks v_places v_models))]) hD hS hA [0] rfl
    refine va_calli (va_runV (As := [.int tt]) (rest := []) ⟨hx, hb, hml, hown, hts⟩ (k_X9_isTrait l dC dI cA H.size am v_status v_now v_told v_merges v_taped v_size v_from v_to v_fault v_readFault v_traits v_length v_open v_leaks v_places v_models tt i_v_now i_v_told i_v_taped i_v_size i_v_from i_v_to i_v_traits i_v_length i_v_open i_v_places i_v_models) (cwV 1 hts gX9_limit_X9_isTrait rfl rfl rfl (by decide +kernel) ⟨Nat.le_of_ble_eq_true rfl, Nat.le_of_ble_eq_true rfl⟩) ⟨fun a U g mk q => by obtain ⟨q0, q1, qP, qK, qD, qN⟩ := q; exact ⟨q0, q1, qP, va_K.moved (u := U) (U := U.calling g mk a) (Vm.Alike.refl U.vm) qK, qD, qN.same rfl⟩, va_recv hK hPc (ci := 9) (q0 := 0) rfl rfl, fun U hU hW => ⟨rfl, by rw [hU], by rw [hU]; exact hPc, va_K.moved hW.alike hK, hDc.weaken (fun _ _ _ _ => trivial), hN.warm hW⟩⟩ rfl rfl hl.1 rfl (lv_room (Nat.le_of_ble_eq_true rfl)) dX9_limit_20 ⟨Nat.le_of_ble_eq_true rfl, Nat.le_of_ble_eq_true rfl⟩) hS (fun q _ h => hFc q h) hFc (fun r_9 u_10 t H1 locs ht hvm hw_11 hB hz1 hk1 hS => ?_)
    try dsimp only at hw_11 hB
    have po_12 := hw_11
    obtain ⟨hP1, hD1⟩ := hB
    rw [ht] at hP1
    obtain ⟨hP, hD⟩ := va_join (wr := [((am 23), .inl (cA 0, 20, .inl f_limits))]) (w1 := [((am 0), .inr (9, F9 am v_status v_now v_told v_merges v_taped v_size v_from v_to v_fault v_readFault v_traits v_length v_open v_leaks v_places v_models))]) hP hD [0] [1] rfl rfl (by decide) (by decide) hk1 hFc hP1 hD1
    clear hz1
    generalize H1 = H at hP hS ⊢
    replace hP : va_P (dC, dI) vwCl [((am 23), .inl (cA 0, 20, .inl f_limits)), ((am 0), .inr (9, F9 am v_status v_now v_told v_merges v_taped v_size v_from v_to v_fault v_readFault v_traits v_length v_open v_leaks v_places v_models))] H := hP
    replace hD : va_D A [((am 23), .inl (cA 0, 20, .inl f_limits)), ((am 0), .inr (9, F9 am v_status v_now v_told v_merges v_taped v_size v_from v_to v_fault v_readFault v_traits v_length v_open v_leaks v_places v_models))] := hD
    refine lv_if_ne (tgt := 33) hx hb dX9_limit_23 (by decide) (fun c_13 => ?_) (fun c_13 => ?_)
    · have dc_13 : ¬ r_9.toInt = 0 := jI_ne c_13 rfl (by decide)
      refine lv_aload_n hx hb dX9_limit_33 rfl (lv_at hl 0 rfl) ?_
      refine va_get (D := (dC, dI)) (ci := 9) (v := .ref (am 23)) (C := RX9) (T := TX9) (N := 51) hx hb hts hIX9 hown hK hP 1 rfl rfl 36 (by decide) (hts (.fieldLink RX9 83 "TraitHouseModel" "limits" "[I") (by decide +kernel)) (fun _ h9 => h9) rfl dX9_limit_34 ?_
      refine lv_iload_n hx hb dX9_limit_37 rfl (lv_at hl 1 rfl) ?_
      have h_14 : vp_in tt 20 := (vp_in_iff.mpr ⟨by omega, by omega⟩)
      refine va_iald hx hb hK hP 0 0 rfl rfl h_14 dX9_limit_38 ?_
      refine lv_topi (fun x_15 ex_15 => ?_)
      refine lv_istore_n (lv' := [(3, .int x_15), (0, .ref (am 0)), (1, .int tt), (2, .int n)]) hx hb dX9_limit_39 rfl hl (by decide) rfl (fun ls hl => ?_)
      refine lv_aload_n hx hb dX9_limit_40 rfl (lv_at hl 1 rfl) ?_
      refine va_get (D := (dC, dI)) (ci := 9) (v := .ref (am 23)) (C := RX9) (T := TX9) (N := 51) hx hb hts hIX9 hown hK hP 1 rfl rfl 36 (by decide) (hts (.fieldLink RX9 83 "TraitHouseModel" "limits" "[I") (by decide +kernel)) (fun _ h9 => h9) rfl dX9_limit_41 ?_
      refine lv_iload_n hx hb dX9_limit_44 rfl (lv_at hl 2 rfl) ?_
      refine lv_iload_n hx hb dX9_limit_45 rfl (lv_at hl 3 rfl) ?_
      have h_16 : vp_in tt 20 := (vp_in_iff.mpr ⟨by omega, by omega⟩)
      refine va_iast hx hb hK hP hD hS 0 0 rfl rfl h_16 dX9_limit_46 (fun H locs hP hD hS => ?_)
      replace hP : va_P (dC, dI) vwCl [((am 23), .inl (cA 0, 20, .inl (upd f_limits tt.toNatClampNeg n))), ((am 0), .inr (9, F9 am v_status v_now v_told v_merges v_taped v_size v_from v_to v_fault v_readFault v_traits v_length v_open v_leaks v_places v_models))] H := hP
      replace hD : va_D A [((am 23), .inl (cA 0, 20, .inl (upd f_limits tt.toNatClampNeg n))), ((am 0), .inr (9, F9 am v_status v_now v_told v_merges v_taped v_size v_from v_to v_fault v_readFault v_traits v_length v_open v_leaks v_places v_models))] := hD
      obtain ⟨g_17, eg_17⟩ : ∃ g : Nat → Int32, g = upd f_limits tt.toNatClampNeg n := ⟨_, rfl⟩
      rw [← eg_17] at hP hD
      refine lv_aload_n hx hb dX9_limit_47 rfl (lv_at hl 1 rfl) ?_
      refine lv_iload_n hx hb dX9_limit_48 rfl (lv_at hl 0 rfl) ?_
      have hPc := hP.sub (ws' := [((am 0), .inr (9, F9 am v_status v_now v_told v_merges v_taped v_size v_from v_to v_fault v_readFault v_traits v_length v_open v_leaks v_places v_models))]) [1] rfl
      have hDc := hD.sub (ws' := [((am 0), .inr (9, F9 am v_status v_now v_told v_merges v_taped v_size v_from v_to v_fault v_readFault v_traits v_length v_open v_leaks v_places v_models))]) [1] (by decide) rfl
      have hFc := va_free (wc := [((am 0), .inr (9, F9 am v_status v_now v_told v_merges v_taped v_size v_from v_to v_fault v_readFault v_traits v_length v_open v_leaks v_places v_models))]) hD hS hA [1] rfl
      refine va_calli (va_runV (As := [.int x_15]) (rest := []) ⟨hx, hb, hml, hown, hts⟩ (k_X9_ends l dC dI cA H.size am v_status v_now v_told v_merges v_taped v_size v_from v_to v_fault v_readFault v_traits v_length v_open v_leaks v_places v_models x_15 i_v_now i_v_told i_v_taped i_v_size i_v_from i_v_to i_v_traits i_v_length i_v_open i_v_places i_v_models) (cwV 1 hts gX9_limit_X9_ends rfl rfl rfl (by decide +kernel) ⟨Nat.le_of_ble_eq_true rfl, Nat.le_of_ble_eq_true rfl⟩) ⟨fun a U g mk q => by obtain ⟨q0, q1, qP, qK, qD, qN⟩ := q; exact ⟨q0, q1, qP, va_K.moved (u := U) (U := U.calling g mk a) (Vm.Alike.refl U.vm) qK, qD, qN.same rfl⟩, va_recv hK hPc (ci := 9) (q0 := 0) rfl rfl, fun U hU hW => ⟨rfl, by rw [hU], by rw [hU]; exact hPc, va_K.moved hW.alike hK, hDc.weaken (fun _ _ _ _ => trivial), hN.warm hW⟩⟩ rfl rfl hl.1 rfl (lv_room (Nat.le_of_ble_eq_true rfl)) dX9_limit_49 ⟨Nat.le_of_ble_eq_true rfl, Nat.le_of_ble_eq_true rfl⟩) hS (fun q _ h => hFc q h) hFc (fun r_18 u_19 t H1 locs ht hvm hw_20 hB hz1 hk1 hS => ?_)
      obtain ⟨w_21, rfl⟩ : ∃ z, z = u_19 := ⟨_, rfl⟩
      try dsimp only at hw_20 hB
      have hr9 := hw_20
      obtain ⟨hP1, hD1⟩ := hB
      rw [ht] at hP1
      obtain ⟨hP, hD⟩ := va_join (wr := [((am 23), .inl (cA 0, 20, .inl g_17))]) (w1 := [((am 0), .inr (9, F9 am w_21 v_now v_told v_merges v_taped v_size v_from v_to v_fault v_readFault v_traits v_length v_open v_leaks v_places v_models))]) hP hD [1] [0] rfl rfl (by decide) (by decide) hk1 hFc hP1 hD1
      clear hz1
      generalize H1 = H at hP hS ⊢
      replace hP : va_P (dC, dI) vwCl [((am 23), .inl (cA 0, 20, .inl g_17)), ((am 0), .inr (9, F9 am w_21 v_now v_told v_merges v_taped v_size v_from v_to v_fault v_readFault v_traits v_length v_open v_leaks v_places v_models))] H := hP
      replace hD : va_D A [((am 23), .inl (cA 0, 20, .inl g_17)), ((am 0), .inr (9, F9 am w_21 v_now v_told v_merges v_taped v_size v_from v_to v_fault v_readFault v_traits v_length v_open v_leaks v_places v_models))] := hD
      obtain rfl : x_15 = r_18 := hr9.symm
      have hP9 := hP.sub (ws' := [((am 0), .inr (9, F9 am w_21 v_now v_told v_merges v_taped v_size v_from v_to v_fault v_readFault v_traits v_length v_open v_leaks v_places v_models)), ((am 23), .inl (cA 0, 20, .inl g_17))]) [1, 0] rfl
      have hD9 := hD.sub (ws' := [((am 0), .inr (9, F9 am w_21 v_now v_told v_merges v_taped v_size v_from v_to v_fault v_readFault v_traits v_length v_open v_leaks v_places v_models)), ((am 23), .inl (cA 0, 20, .inl g_17))]) [1, 0] (by decide) rfl
      subst hQe
      have hans : (x_15 : Int32).toInt = x_15.toInt := rfl
      have hpost : ((¬ (0 ≤ n.toInt ∧ n.toInt ≤ 100000) → (x_15 : Int32).toInt = (-1) ∧ g_17 = f_limits) ∧ ((0 ≤ n.toInt ∧ n.toInt ≤ 100000) ∧ ¬ (0 ≤ tt.toInt ∧ tt.toInt < v_traits.toInt) → (x_15 : Int32).toInt = (-2) ∧ g_17 = f_limits) ∧ ((0 ≤ n.toInt ∧ n.toInt ≤ 100000) ∧ (0 ≤ tt.toInt ∧ tt.toInt < v_traits.toInt) → (x_15 : Int32) = f_limits tt.toNatClampNeg ∧ g_17 = upd f_limits tt.toNatClampNeg n)) := ⟨fun h => by exfalso; omega, fun h => by exfalso; omega, fun _ => ⟨ex_15, eg_17⟩⟩
      exact W.iret (v := x_15) hx hb hr (fun t ht hW => ⟨⟨x_15, (w_21, g_17), rfl, hpost, by rw [ht]; exact hP9, hD9⟩, hS.F ht⟩) hS.2.2 dX9_limit_52
    · have dc_13 : r_9.toInt = 0 := jI_eq c_13 rfl (by decide)
      refine lv_aload_n hx hb dX9_limit_26 rfl (lv_at hl 0 rfl) ?_
      refine lv_bipush (v := (-2)) hx hb dX9_limit_27 (by decide) ?_
      have hk_22 : ((-2) : Int32).toInt = (-2) := by decide
      have hPc := hP.sub (ws' := [((am 0), .inr (9, F9 am v_status v_now v_told v_merges v_taped v_size v_from v_to v_fault v_readFault v_traits v_length v_open v_leaks v_places v_models))]) [1] rfl
      have hDc := hD.sub (ws' := [((am 0), .inr (9, F9 am v_status v_now v_told v_merges v_taped v_size v_from v_to v_fault v_readFault v_traits v_length v_open v_leaks v_places v_models))]) [1] (by decide) rfl
      have hFc := va_free (wc := [((am 0), .inr (9, F9 am v_status v_now v_told v_merges v_taped v_size v_from v_to v_fault v_readFault v_traits v_length v_open v_leaks v_places v_models))]) hD hS hA [1] rfl
      refine va_calli (va_runV (As := [.int (-2)]) (rest := []) ⟨hx, hb, hml, hown, hts⟩ (k_X9_ends l dC dI cA H.size am v_status v_now v_told v_merges v_taped v_size v_from v_to v_fault v_readFault v_traits v_length v_open v_leaks v_places v_models (-2) i_v_now i_v_told i_v_taped i_v_size i_v_from i_v_to i_v_traits i_v_length i_v_open i_v_places i_v_models) (cwV 1 hts gX9_limit_X9_ends rfl rfl rfl (by decide +kernel) ⟨Nat.le_of_ble_eq_true rfl, Nat.le_of_ble_eq_true rfl⟩) ⟨fun a U g mk q => by obtain ⟨q0, q1, qP, qK, qD, qN⟩ := q; exact ⟨q0, q1, qP, va_K.moved (u := U) (U := U.calling g mk a) (Vm.Alike.refl U.vm) qK, qD, qN.same rfl⟩, va_recv hK hPc (ci := 9) (q0 := 0) rfl rfl, fun U hU hW => ⟨rfl, by rw [hU], by rw [hU]; exact hPc, va_K.moved hW.alike hK, hDc.weaken (fun _ _ _ _ => trivial), hN.warm hW⟩⟩ rfl rfl hl.1 rfl (lv_room (Nat.le_of_ble_eq_true rfl)) dX9_limit_29 ⟨Nat.le_of_ble_eq_true rfl, Nat.le_of_ble_eq_true rfl⟩) hS (fun q _ h => hFc q h) hFc (fun r_23 u_24 t H1 locs ht hvm hw_25 hB hz1 hk1 hS => ?_)
      obtain ⟨w_26, rfl⟩ : ∃ z, z = u_24 := ⟨_, rfl⟩
      try dsimp only at hw_25 hB
      have hr9 := hw_25
      obtain ⟨hP1, hD1⟩ := hB
      rw [ht] at hP1
      obtain ⟨hP, hD⟩ := va_join (wr := [((am 23), .inl (cA 0, 20, .inl f_limits))]) (w1 := [((am 0), .inr (9, F9 am w_26 v_now v_told v_merges v_taped v_size v_from v_to v_fault v_readFault v_traits v_length v_open v_leaks v_places v_models))]) hP hD [1] [0] rfl rfl (by decide) (by decide) hk1 hFc hP1 hD1
      clear hz1
      generalize H1 = H at hP hS ⊢
      replace hP : va_P (dC, dI) vwCl [((am 23), .inl (cA 0, 20, .inl f_limits)), ((am 0), .inr (9, F9 am w_26 v_now v_told v_merges v_taped v_size v_from v_to v_fault v_readFault v_traits v_length v_open v_leaks v_places v_models))] H := hP
      replace hD : va_D A [((am 23), .inl (cA 0, 20, .inl f_limits)), ((am 0), .inr (9, F9 am w_26 v_now v_told v_merges v_taped v_size v_from v_to v_fault v_readFault v_traits v_length v_open v_leaks v_places v_models))] := hD
      obtain rfl : (-2) = r_23 := hr9.symm
      have hP9 := hP.sub (ws' := [((am 0), .inr (9, F9 am w_26 v_now v_told v_merges v_taped v_size v_from v_to v_fault v_readFault v_traits v_length v_open v_leaks v_places v_models)), ((am 23), .inl (cA 0, 20, .inl f_limits))]) [1, 0] rfl
      have hD9 := hD.sub (ws' := [((am 0), .inr (9, F9 am w_26 v_now v_told v_merges v_taped v_size v_from v_to v_fault v_readFault v_traits v_length v_open v_leaks v_places v_models)), ((am 23), .inl (cA 0, 20, .inl f_limits))]) [1, 0] (by decide) rfl
      subst hQe
      have hans : ((-2) : Int32).toInt = (-2) := (by decide)
      have hpost : ((¬ (0 ≤ n.toInt ∧ n.toInt ≤ 100000) → ((-2) : Int32).toInt = (-1) ∧ f_limits = f_limits) ∧ ((0 ≤ n.toInt ∧ n.toInt ≤ 100000) ∧ ¬ (0 ≤ tt.toInt ∧ tt.toInt < v_traits.toInt) → ((-2) : Int32).toInt = (-2) ∧ f_limits = f_limits) ∧ ((0 ≤ n.toInt ∧ n.toInt ≤ 100000) ∧ (0 ≤ tt.toInt ∧ tt.toInt < v_traits.toInt) → ((-2) : Int32) = f_limits tt.toNatClampNeg ∧ f_limits = upd f_limits tt.toNatClampNeg n)) := ⟨fun h => by exfalso; omega, fun _ => ⟨by omega, rfl⟩, fun h => by exfalso; omega⟩
      exact W.iret (v := (-2)) hx hb hr (fun t ht hW => ⟨⟨(-2), (w_26, f_limits), rfl, hpost, by rw [ht]; exact hP9, hD9⟩, hS.F ht⟩) hS.2.2 dX9_limit_32
  · have dc_8 : r_4.toInt = 0 := jI_eq c_8 rfl (by decide)
    refine lv_aload_n hx hb dX9_limit_12 rfl (lv_at hl 0 rfl) ?_
    refine lv_iconst (v := (-1)) hx hb dX9_limit_13 (by decide) ?_
    have hk_27 : ((-1) : Int32).toInt = (-1) := by decide
    have hPc := hP.sub (ws' := [((am 0), .inr (9, F9 am v_status v_now v_told v_merges v_taped v_size v_from v_to v_fault v_readFault v_traits v_length v_open v_leaks v_places v_models))]) [0] rfl
    have hDc := hD.sub (ws' := [((am 0), .inr (9, F9 am v_status v_now v_told v_merges v_taped v_size v_from v_to v_fault v_readFault v_traits v_length v_open v_leaks v_places v_models))]) [0] (by decide) rfl
    have hFc := va_free (wc := [((am 0), .inr (9, F9 am v_status v_now v_told v_merges v_taped v_size v_from v_to v_fault v_readFault v_traits v_length v_open v_leaks v_places v_models))]) hD hS hA [0] rfl
    refine va_calli (va_runV (As := [.int (-1)]) (rest := []) ⟨hx, hb, hml, hown, hts⟩ (k_X9_ends l dC dI cA H.size am v_status v_now v_told v_merges v_taped v_size v_from v_to v_fault v_readFault v_traits v_length v_open v_leaks v_places v_models (-1) i_v_now i_v_told i_v_taped i_v_size i_v_from i_v_to i_v_traits i_v_length i_v_open i_v_places i_v_models) (cwV 1 hts gX9_limit_X9_ends rfl rfl rfl (by decide +kernel) ⟨Nat.le_of_ble_eq_true rfl, Nat.le_of_ble_eq_true rfl⟩) ⟨fun a U g mk q => by obtain ⟨q0, q1, qP, qK, qD, qN⟩ := q; exact ⟨q0, q1, qP, va_K.moved (u := U) (U := U.calling g mk a) (Vm.Alike.refl U.vm) qK, qD, qN.same rfl⟩, va_recv hK hPc (ci := 9) (q0 := 0) rfl rfl, fun U hU hW => ⟨rfl, by rw [hU], by rw [hU]; exact hPc, va_K.moved hW.alike hK, hDc.weaken (fun _ _ _ _ => trivial), hN.warm hW⟩⟩ rfl rfl hl.1 rfl (lv_room (Nat.le_of_ble_eq_true rfl)) dX9_limit_14 ⟨Nat.le_of_ble_eq_true rfl, Nat.le_of_ble_eq_true rfl⟩) hS (fun q _ h => hFc q h) hFc (fun r_28 u_29 t H1 locs ht hvm hw_30 hB hz1 hk1 hS => ?_)
    obtain ⟨w_31, rfl⟩ : ∃ z, z = u_29 := ⟨_, rfl⟩
    try dsimp only at hw_30 hB
    have hr9 := hw_30
    obtain ⟨hP1, hD1⟩ := hB
    rw [ht] at hP1
    obtain ⟨hP, hD⟩ := va_join (wr := [((am 23), .inl (cA 0, 20, .inl f_limits))]) (w1 := [((am 0), .inr (9, F9 am w_31 v_now v_told v_merges v_taped v_size v_from v_to v_fault v_readFault v_traits v_length v_open v_leaks v_places v_models))]) hP hD [0] [1] rfl rfl (by decide) (by decide) hk1 hFc hP1 hD1
    clear hz1
    generalize H1 = H at hP hS ⊢
    replace hP : va_P (dC, dI) vwCl [((am 23), .inl (cA 0, 20, .inl f_limits)), ((am 0), .inr (9, F9 am w_31 v_now v_told v_merges v_taped v_size v_from v_to v_fault v_readFault v_traits v_length v_open v_leaks v_places v_models))] H := hP
    replace hD : va_D A [((am 23), .inl (cA 0, 20, .inl f_limits)), ((am 0), .inr (9, F9 am w_31 v_now v_told v_merges v_taped v_size v_from v_to v_fault v_readFault v_traits v_length v_open v_leaks v_places v_models))] := hD
    obtain rfl : (-1) = r_28 := hr9.symm
    have hP9 := hP.sub (ws' := [((am 0), .inr (9, F9 am w_31 v_now v_told v_merges v_taped v_size v_from v_to v_fault v_readFault v_traits v_length v_open v_leaks v_places v_models)), ((am 23), .inl (cA 0, 20, .inl f_limits))]) [1, 0] rfl
    have hD9 := hD.sub (ws' := [((am 0), .inr (9, F9 am w_31 v_now v_told v_merges v_taped v_size v_from v_to v_fault v_readFault v_traits v_length v_open v_leaks v_places v_models)), ((am 23), .inl (cA 0, 20, .inl f_limits))]) [1, 0] (by decide) rfl
    subst hQe
    have hans : ((-1) : Int32).toInt = (-1) := (by decide)
    have hpost : ((¬ (0 ≤ n.toInt ∧ n.toInt ≤ 100000) → ((-1) : Int32).toInt = (-1) ∧ f_limits = f_limits) ∧ ((0 ≤ n.toInt ∧ n.toInt ≤ 100000) ∧ ¬ (0 ≤ tt.toInt ∧ tt.toInt < v_traits.toInt) → ((-1) : Int32).toInt = (-2) ∧ f_limits = f_limits) ∧ ((0 ≤ n.toInt ∧ n.toInt ≤ 100000) ∧ (0 ≤ tt.toInt ∧ tt.toInt < v_traits.toInt) → ((-1) : Int32) = f_limits tt.toNatClampNeg ∧ f_limits = upd f_limits tt.toNatClampNeg n)) := ⟨fun _ => ⟨by omega, rfl⟩, fun h => by exfalso; omega, fun h => by exfalso; omega⟩
    exact W.iret (v := (-1)) hx hb hr (fun t ht hW => ⟨⟨(-1), (w_31, f_limits), rfl, hpost, by rw [ht]; exact hP9, hD9⟩, hS.F ht⟩) hS.2.2 dX9_limit_17
