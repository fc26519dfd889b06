theorem shl_one {x n : Int32} (e : x = 1 <<< (n &&& 31)) (h0 : 0 ≤ n.toInt) (h1 : n.toInt ≤ 20) : x.toInt = 2 ^ n.toInt.toNat := by
  have key : ∀ k : Nat, k ≤ 20 → ((1 : Int32) <<< (Int32.ofNat k &&& 31)).toInt = 2 ^ k := by decide +kernel
  have hn : n = Int32.ofNat n.toInt.toNat := by
    apply Int32.toInt_inj.mp
    rw [show (Int32.ofNat n.toInt.toNat).toInt = (n.toInt.toNat : Int) from nI_toInt (by omega)]
    omega
  rw [e]
  conv => lhs; rw [hn]
  exact key _ (by omega)
theorem ushr_0 {v a n : Int32} (e : v = (a.toUInt32 >>> (n.toUInt32 &&& Int32.toUInt32 31)).toInt32) (h0 : 0 ≤ n.toInt) (h1 : n.toInt ≤ 20) : v.toInt = 0 ↔ (0 ≤ a.toInt ∧ a.toInt < 2 ^ n.toInt.toNat) := by
  have hn : n = Int32.ofNat n.toInt.toNat := by
    apply Int32.toInt_inj.mp
    rw [show (Int32.ofNat n.toInt.toNat).toInt = (n.toInt.toNat : Int) from nI_toInt (by omega)]
    omega
  have key : ∀ k : Nat, k ≤ 20 → ((Int32.ofNat k).toUInt32 &&& Int32.toUInt32 31).toBitVec.toNat % 32 = k := by decide +kernel
  have hk := key n.toInt.toNat (by omega)
  have hv : v.toBitVec.toNat = a.toBitVec.toNat / 2 ^ n.toInt.toNat := by
    have e1 : v.toBitVec = a.toBitVec >>> ((n.toUInt32 &&& Int32.toUInt32 31).toBitVec % 32#32) := by rw [e]; rfl
    rw [e1, BitVec.ushiftRight_eq', BitVec.toNat_ushiftRight, Nat.shiftRight_eq_div_pow, BitVec.toNat_umod]
    rw [← hn] at hk
    show _ / 2 ^ ((n.toUInt32 &&& Int32.toUInt32 31).toBitVec.toNat % 32) = _
    rw [hk]
  have hp : (2 : Nat) ^ n.toInt.toNat ≤ 2 ^ 20 := Nat.pow_le_pow_right (by decide) (by omega)
  have hp0 : 0 < (2 : Nat) ^ n.toInt.toNat := Nat.two_pow_pos _
  have hc : ((2 ^ n.toInt.toNat : Nat) : Int) = 2 ^ n.toInt.toNat := by first | exact Int.natCast_pow 2 _ | simp | norm_cast
  have ha := i32_nat a
  have hz : v.toInt = 0 ↔ v.toBitVec.toNat = 0 := by
    have hb := i32_nat v
    have hl := v.toBitVec.isLt
    omega
  have hA := a.toBitVec.isLt
  rw [hz, hv, Nat.div_eq_zero_iff_lt hp0, ← hc]
  have h20 : (2 : Nat) ^ 20 = 1048576 := by decide
  have hna : a.toInt = (a.toBitVec.toNat : Int) ∨ (2147483648 ≤ a.toBitVec.toNat ∧ a.toInt = (a.toBitVec.toNat : Int) - 4294967296) := by
    have h1 : a.toInt = a.toBitVec.toInt := rfl
    rw [h1, BitVec.toInt_eq_toNat_cond]
    split
    · exact Or.inl rfl
    · exact Or.inr ⟨by omega, rfl⟩
  rw [h20] at hp
  omega

/-! what traits need: bits -/
def tb (a : Int32) (i : Nat) : Bool := a.toBitVec.toNat.testBit i
theorem tb_ext {a b : Int32} (h : ∀ j, tb a j = tb b j) : a = b := by
  apply Int32.toBitVec_inj.mp
  apply BitVec.eq_of_toNat_eq
  exact Nat.eq_of_testBit_eq h
theorem tb_or (a b : Int32) (j : Nat) : tb (a ||| b) j = (tb a j || tb b j) := by
  show (a.toBitVec ||| b.toBitVec).toNat.testBit j = _
  rw [BitVec.toNat_or, Nat.testBit_or]
  rfl
theorem tb_0 (j : Nat) : tb 0 j = false := Nat.zero_testBit j
theorem tb_bti {v : Int} (h0 : 0 ≤ v) (h1 : v ≤ 30) (j : Nat) : tb (bti v) j = true ↔ j = v.toNat := by
  have key : ∀ k : Nat, k ≤ 30 → ((1 : Int32) <<< (Int32.ofInt (k : Int) &&& 31)).toBitVec.toNat = 2 ^ k := by decide +kernel
  have h := key v.toNat (by omega)
  rw [show ((v.toNat : Nat) : Int) = v by omega] at h
  show Nat.testBit (((1 : Int32) <<< (Int32.ofInt v &&& 31)).toBitVec.toNat) j = true ↔ _
  rw [h, Nat.testBit_two_pow, decide_eq_true_iff]
  exact eq_comm
theorem tb_shr {a b x y : Int32} (ex : x = (a.toUInt32 >>> (b.toUInt32 &&& Int32.toUInt32 31)).toInt32) (ey : y = x &&& 1) (h0 : 0 ≤ b.toInt) (h1 : b.toInt ≤ 30) : ¬ y.toInt = 0 ↔ tb a b.toInt.toNat = true := by
  have hn : b = Int32.ofNat b.toInt.toNat := by
    apply Int32.toInt_inj.mp
    rw [show (Int32.ofNat b.toInt.toNat).toInt = (b.toInt.toNat : Int) from nI_toInt (by omega)]
    omega
  have key : ∀ k : Nat, k ≤ 30 → ((Int32.ofNat k).toUInt32 &&& Int32.toUInt32 31).toBitVec.toNat % 32 = k := by decide +kernel
  have hk := key b.toInt.toNat (by omega)
  have hx : x.toBitVec.toNat = a.toBitVec.toNat / 2 ^ b.toInt.toNat := by
    have e1 : x.toBitVec = a.toBitVec >>> ((b.toUInt32 &&& Int32.toUInt32 31).toBitVec % 32#32) := by rw [ex]; rfl
    rw [e1, BitVec.ushiftRight_eq', BitVec.toNat_ushiftRight, Nat.shiftRight_eq_div_pow, BitVec.toNat_umod]
    rw [← hn] at hk
    show _ / 2 ^ ((b.toUInt32 &&& Int32.toUInt32 31).toBitVec.toNat % 32) = _
    rw [hk]
  have hy : y.toBitVec.toNat = a.toBitVec.toNat / 2 ^ b.toInt.toNat % 2 := by
    have e1 : y.toBitVec = x.toBitVec &&& 1#32 := by rw [ey]; rfl
    rw [e1, BitVec.toNat_and, show (1#32 : BitVec 32).toNat = 2 ^ 1 - 1 by decide, Nat.and_two_pow_sub_one_eq_mod, hx]
  have hz := i32_nat y
  have hl := y.toBitVec.isLt
  unfold tb
  rw [Nat.testBit_eq_decide_div_mod_eq, decide_eq_true_iff, ← hy]
  omega
theorem tb_sar {a b x y : Int32} (ex : x = a >>> (b &&& 31)) (ey : y = x &&& 1) (h0 : 0 ≤ b.toInt) (h1 : b.toInt ≤ 30) : ¬ y.toInt = 0 ↔ tb a b.toInt.toNat = true := by
  have hn : b = Int32.ofNat b.toInt.toNat := by
    apply Int32.toInt_inj.mp
    rw [show (Int32.ofNat b.toInt.toNat).toInt = (b.toInt.toNat : Int) from nI_toInt (by omega)]
    omega
  have key : ∀ k : Nat, k ≤ 30 → ((Int32.ofNat k &&& 31).toBitVec.smod 32#32).toNat = k := by decide +kernel
  have hk := key b.toInt.toNat (by omega)
  rw [← hn] at hk
  have hx : x.toInt = a.toInt / 2 ^ b.toInt.toNat := by
    have e1 : x.toBitVec = a.toBitVec.sshiftRight ((b &&& 31).toBitVec.smod 32#32).toNat := by rw [ex]; rfl
    show x.toBitVec.toInt = a.toBitVec.toInt / 2 ^ b.toInt.toNat
    rw [e1, BitVec.toInt_sshiftRight, Int.shiftRight_eq_div_pow, hk]
    rfl
  have hy : y.toBitVec.toNat = x.toBitVec.toNat % 2 := by
    have e1 : y.toBitVec = x.toBitVec &&& 1#32 := by rw [ey]; rfl
    rw [e1, BitVec.toNat_and, show (1#32 : BitVec 32).toNat = 2 ^ 1 - 1 by decide, Nat.and_two_pow_sub_one_eq_mod]
  have hz := i32_nat y
  have hl := y.toBitVec.isLt
  have hxz := i32_nat x
  have hax := i32_nat a
  unfold tb
  rw [Nat.testBit_eq_decide_div_mod_eq, decide_eq_true_iff]
  have h31 : 2 ^ b.toInt.toNat * 2 ^ (32 - b.toInt.toNat) = (4294967296 : Nat) := by
    rw [← Nat.pow_add, show b.toInt.toNat + (32 - b.toInt.toNat) = 32 by omega]
  have h2 : (2 : Nat) ^ (32 - b.toInt.toNat) = 2 * 2 ^ (31 - b.toInt.toNat) := by
    rw [show 32 - b.toInt.toNat = (31 - b.toInt.toNat) + 1 by omega, Nat.pow_succ, Nat.mul_comm]
  have hp : (0 : Int) < 2 ^ b.toInt.toNat := Int.pow_pos (by decide)
  have hc : ((2 ^ b.toInt.toNat : Nat) : Int) = 2 ^ b.toInt.toNat := by first | exact Int.natCast_pow 2 _ | simp | norm_cast
  have hd : ((a.toBitVec.toNat / 2 ^ b.toInt.toNat : Nat) : Int) = (a.toBitVec.toNat : Int) / 2 ^ b.toInt.toNat := by
    rw [← hc]; exact Int.natCast_ediv _ _
  have hq : (a.toInt / 2 ^ b.toInt.toNat) % 2 = ((a.toBitVec.toNat / 2 ^ b.toInt.toNat : Nat) : Int) % 2 := by
    rcases hax with ⟨w0, w⟩ | ⟨w0, w⟩
    · rw [w, hd]
    · rw [w, hd]
      have e4 : ((a.toBitVec.toNat : Int) - 4294967296) = (a.toBitVec.toNat : Int) + 2 ^ b.toInt.toNat * (-(2 * ((2 ^ (31 - b.toInt.toNat) : Nat) : Int))) := by
        have e5 : (4294967296 : Int) = 2 ^ b.toInt.toNat * (2 * ((2 ^ (31 - b.toInt.toNat) : Nat) : Int)) := by
          have e6 := congrArg (fun n : Nat => (n : Int)) h31
          rw [h2] at e6
          simp only [Int.natCast_mul] at e6
          rw [hc] at e6
          exact e6.symm
        rw [Int.mul_neg, ← e5]
        rfl
      rw [e4, Int.add_mul_ediv_left _ _ (Int.ne_of_gt hp)]
      omega
  rw [hx] at hxz
  omega
/-- the needs of the traits whose bits are set -/
def nds (nd : Nat → Int32) (a : Int32) : Nat → Int32
  | 0 => 0
  | i + 1 => if tb a i = true then nds nd a i ||| nd i else nds nd a i
theorem nds_tb {nd : Nat → Int32} {a : Int32} {j : Nat} : ∀ {n : Nat}, tb (nds nd a n) j = true ↔ ∃ i, i < n ∧ tb a i = true ∧ tb (nd i) j = true := by
  intro n
  induction n with
  | zero =>
    show tb 0 j = true ↔ _
    rw [tb_0]
    exact ⟨fun h => absurd h (by decide), fun ⟨i, h, _⟩ => absurd h (Nat.not_lt_zero i)⟩
  | succ n ih =>
    show tb (if tb a n = true then nds nd a n ||| nd n else nds nd a n) j = true ↔ _
    by_cases q : tb a n = true
    · rw [if_pos q, tb_or, Bool.or_eq_true, ih]
      constructor
      · rintro (⟨i, h1, h2⟩ | h)
        · exact ⟨i, by omega, h2⟩
        · exact ⟨n, by omega, q, h⟩
      · rintro ⟨i, h1, h2, h3⟩
        by_cases w : i = n
        · subst w; exact Or.inr h3
        · exact Or.inl ⟨i, by omega, h2, h3⟩
    · rw [if_neg q, ih]
      constructor
      · rintro ⟨i, h1, h2⟩; exact ⟨i, by omega, h2⟩
      · rintro ⟨i, h1, h2, h3⟩
        by_cases w : i = n
        · subst w; exact absurd h2 q
        · exact ⟨i, by omega, h2, h3⟩
/-- the reference's way down -/
def dsc (R : Nat → Int32) : Int32 → Nat → Int32
  | a, 0 => a
  | a, i + 1 => dsc R (if tb a i = true then a ||| R i else a) i
def ndI (R nd : Nat → Int32) (n : Nat) : Prop := ∀ i, i < n → (∀ j, tb (R i) j = true → j < i) ∧ nd i = nds nd (R i) i ||| bti (i : Int)
theorem ndI_tb {R nd : Nat → Int32} {n i j : Nat} (h : ndI R nd n) (hn : n ≤ 20) (hi : i < n) : tb (nd i) j = true ↔ (∃ k, k < i ∧ tb (R i) k = true ∧ tb (nd k) j = true) ∨ j = i := by
  rw [(h i hi).2, tb_or, Bool.or_eq_true, nds_tb, tb_bti (by omega) (by omega)]
  rw [show ((i : Int)).toNat = i by omega]
theorem dsc_tb {R nd : Nat → Int32} {n j : Nat} (h : ndI R nd n) (hn : n ≤ 20) : ∀ {i : Nat} {a : Int32}, i ≤ n → (tb (dsc R a i) j = true ↔ tb a j = true ∨ ∃ k, k < i ∧ tb a k = true ∧ tb (nd k) j = true) := by
  intro i
  induction i with
  | zero =>
    intro a _
    show tb a j = true ↔ _
    exact ⟨fun w => Or.inl w, fun w => w.elim id (fun ⟨k, q, _⟩ => absurd q (Nat.not_lt_zero k))⟩
  | succ i ih =>
    intro a hi
    show tb (dsc R (if tb a i = true then a ||| R i else a) i) j = true ↔ _
    rw [ih (by omega)]
    by_cases q : tb a i = true
    · rw [if_pos q]
      simp only [tb_or, Bool.or_eq_true]
      have hb := ndI_tb (j := j) h hn (show i < n by omega)
      constructor
      · rintro ((w | w) | ⟨k, h1, (h2 | h2), h3⟩)
        · exact Or.inl w
        · refine Or.inr ⟨i, by omega, q, hb.mpr (Or.inl ⟨j, (h i (by omega)).1 j w, w, ?_⟩)⟩
          exact (ndI_tb h hn (by have := (h i (by omega)).1 j w; omega)).mpr (Or.inr rfl)
        · exact Or.inr ⟨k, by omega, h2, h3⟩
        · exact Or.inr ⟨i, by omega, q, hb.mpr (Or.inl ⟨k, h1, h2, h3⟩)⟩
      · rintro (w | ⟨k, h1, h2, h3⟩)
        · exact Or.inl (Or.inl w)
        · by_cases e : k = i
          · subst e
            rcases hb.mp h3 with ⟨k2, g1, g2, g3⟩ | g
            · exact Or.inr ⟨k2, g1, Or.inr g2, g3⟩
            · subst g; exact Or.inl (Or.inl q)
          · exact Or.inr ⟨k, by omega, Or.inl h2, h3⟩
    · rw [if_neg q]
      constructor
      · rintro (w | ⟨k, h1, h2⟩)
        · exact Or.inl w
        · exact Or.inr ⟨k, by omega, h2⟩
      · rintro (w | ⟨k, h1, h2, h3⟩)
        · exact Or.inl w
        · by_cases e : k = i
          · subst e; exact absurd h2 q
          · exact Or.inr ⟨k, by omega, h2, h3⟩
theorem dsc_nds {R nd : Nat → Int32} {n : Nat} {a : Int32} (h : ndI R nd n) (hn : n ≤ 20) (ha : ∀ j, tb a j = true → j < n) : dsc R a n = nds nd a n := by
  apply tb_ext
  intro j
  rw [Bool.eq_iff_iff, dsc_tb h hn (Nat.le_refl n), nds_tb]
  constructor
  · rintro (w | w)
    · exact ⟨j, ha j w, w, (ndI_tb h hn (ha j w)).mpr (Or.inr rfl)⟩
    · exact w
  · exact fun w => Or.inr w
theorem nds_cong {nd nd' : Nat → Int32} {a : Int32} : ∀ {n : Nat}, (∀ i, i < n → nd' i = nd i) → nds nd' a n = nds nd a n := by
  intro n
  induction n with
  | zero => intro _; rfl
  | succ n ih =>
    intro h
    show (if tb a n = true then nds nd' a n ||| nd' n else nds nd' a n) = (if tb a n = true then nds nd a n ||| nd n else nds nd a n)
    rw [ih (fun i hi => h i (by omega)), h n (by omega)]
theorem nds_more {nd : Nat → Int32} {a : Int32} {n : Nat} (ha : ∀ j, tb a j = true → j < n) : nds nd a (n + 1) = nds nd a n := by
  show (if tb a n = true then nds nd a n ||| nd n else nds nd a n) = _
  rw [if_neg (fun q => absurd (ha n q) (Nat.lt_irrefl n))]
theorem ndI_more {R R' nd nd' : Nat → Int32} {n : Nat} (h : ndI R nd n) (hR : ∀ i, i < n → R' i = R i) (hd : ∀ i, i < n → nd' i = nd i) (hl : ∀ j, tb (R' n) j = true → j < n) (hn : nd' n = nds nd (R' n) n ||| bti (n : Int)) : ndI R' nd' (n + 1) := by
  intro i hi
  by_cases q : i = n
  · subst q
    refine ⟨hl, ?_⟩
    rw [hn, nds_cong hd]
  · have hi2 : i < n := by omega
    rw [hR i hi2, hd i hi2, nds_cong (fun k hk => hd k (by omega))]
    exact h i hi2
/-- what a text reads lies below the number of traits -/
def okr (n : Int) (x : RS) : Prop := ∀ p e lk rd, x = .inr (p, e, lk, rd) → ∀ j, tb rd j = true → (j : Int) < n
def lowb (n : Int) (rd : Int32) : Prop := ∀ j, tb rd j = true → (j : Int) < n
theorem okr_l {n : Int} {f : Int} : okr n (.inl f) := fun _ _ _ _ h => by cases h
theorem okr_r {n : Int} {p e lk : Int} {rd : Int32} (h : lowb n rd) : okr n (.inr (p, e, lk, rd)) := fun _ _ _ _ q => by cases q; exact h
theorem okr_bnd {n : Int} {x : RS} {k : Int → Int → Int → Int32 → RS} (hx : okr n x) (hk : ∀ p e lk rd, lowb n rd → okr n (k p e lk rd)) : okr n (bnd x k) := by
  cases x with
  | inl f => exact okr_l
  | inr y =>
    obtain ⟨p, e, lk, rd⟩ := y
    exact hk p e lk rd (hx p e lk rd rfl)
theorem okr_num {n : Int} {g : Int → Int} {z mx p e : Int} {k : Int → Int → Int → RS} (hk : ∀ v p e, 0 ≤ v → v ≤ mx → okr n (k v p e)) : okr n (pnum g z mx p e k) := by
  unfold pnum
  split
  · next h => exact hk _ _ _ h.2.1 h.2.2
  · exact okr_l
theorem okr_tak {n : Int} {g : Int → Int} {z p e : Int} {cs : List Int} {k : Int → Int → RS} (hk : ∀ p e, okr n (k p e)) : okr n (ptak g z cs p e k) := by
  unfold ptak
  split
  · exact hk _ _
  · exact okr_l
theorem okr_win {n : Int} {g : Int → Int} {z p e lk : Int} {rd : Int32} (h : lowb n rd) : okr n (pwin g z p e lk rd) := by
  unfold pwin
  refine okr_num (fun _ p e _ _ => okr_tak (fun p e => okr_num (fun x p e _ _ => okr_tak (fun p e => okr_num (fun _ p e _ _ => ?_)))))
  split
  · exact okr_r h
  · exact okr_r h
theorem lowb_or {n : Int} {rd : Int32} {v : Int} (h : lowb n rd) (h0 : 0 ≤ v) (h1 : v ≤ n - 1) (hn : n ≤ 20) : lowb n (rd ||| bti v) := by
  intro j hj
  rw [tb_or, Bool.or_eq_true] at hj
  rcases hj with w | w
  · exact h j w
  · have := (tb_bti h0 (by omega) j).mp w
    omega
theorem okr_atom {n : Int} {g : Int → Int} {z p e lk : Int} {rd : Int32} {br : Int → Int → Int → Int32 → RS} (hn : n ≤ 20) (hb : ∀ p e lk rd, lowb n rd → okr n (br p e lk rd)) (h : lowb n rd) : okr n (patom g z n br p e lk rd) := by
  unfold patom
  split
  · exact okr_num (fun _ _ _ _ _ => okr_r h)
  · split
    · exact hb _ _ _ _ h
    · split
      · exact okr_l
      · split
        · exact okr_num (fun v _ _ h0 h1 => okr_r (lowb_or h h0 h1 hn))
        · split
          · exact okr_num (fun _ _ _ _ _ => okr_r h)
          · exact okr_win h
theorem okr_part {n : Int} {g : Int → Int} {z p e lk : Int} {rd : Int32} {br : Int → Int → Int → Int32 → RS} (hn : n ≤ 20) (hb : ∀ p e lk rd, lowb n rd → okr n (br p e lk rd)) (h : lowb n rd) : okr n (ppart g z n br p e lk rd) := by
  unfold ppart
  refine okr_bnd (okr_atom hn hb h) (fun p e lk rd h => ?_)
  split
  · exact okr_num (fun _ _ _ _ _ => okr_r h)
  · exact okr_r h
theorem okr_loop {n : Int} {g : Int → Int} {z c1 c2 : Int} {sub : Int → Int → Int → Int32 → RS} (hs : ∀ p e lk rd, lowb n rd → okr n (sub p e lk rd)) : ∀ (f : Nat) (p e lk : Int) (rd : Int32), lowb n rd → okr n (ploop g z c1 c2 sub f p e lk rd) := by
  intro f
  induction f with
  | zero => intro p e lk rd h; exact okr_r h
  | succ f ih =>
    intro p e lk rd h
    show okr n (if tw g [c1] p e = true ∨ tw g [c2] p e = true then bnd (sub (sk g e) (tke g z (sk g e)) lk rd) (ploop g z c1 c2 sub f) else .inr (p, e, lk, rd))
    split
    · exact okr_bnd (hs _ _ _ _ h) ih
    · exact okr_r h
theorem okr_term {n : Int} {g : Int → Int} {z p e lk : Int} {rd : Int32} {br : Int → Int → Int → Int32 → RS} (hn : n ≤ 20) (hb : ∀ p e lk rd, lowb n rd → okr n (br p e lk rd)) (h : lowb n rd) : okr n (pterm g z n br p e lk rd) := by
  unfold pterm
  exact okr_bnd (okr_part hn hb h) (okr_loop (fun _ _ _ _ h => okr_part hn hb h) 200)
theorem okr_sum {n : Int} {g : Int → Int} {z p e lk : Int} {rd : Int32} {br : Int → Int → Int → Int32 → RS} (hn : n ≤ 20) (hb : ∀ p e lk rd, lowb n rd → okr n (br p e lk rd)) (h : lowb n rd) : okr n (psum g z n br p e lk rd) := by
  unfold psum
  exact okr_bnd (okr_term hn hb h) (okr_loop (fun _ _ _ _ h => okr_term hn hb h) 200)
theorem okr_B {n : Int} {g : Int → Int} {z : Int} (hn : n ≤ 20) : ∀ (l : Nat) (p e lk : Int) (rd : Int32), lowb n rd → okr n (pB g z n l p e lk rd) := by
  intro l
  induction l with
  | zero => intro p e lk rd _; exact okr_l
  | succ l ih =>
    intro p e lk rd h
    rw [pB_s]
    exact okr_bnd (okr_sum hn ih h) (fun p e lk rd h => okr_tak (fun _ _ => okr_r h))
theorem okr_read {n : Int} {g : Int → Int} {z : Int} (hn : n ≤ 20) : okr n (pread g z n) := by
  unfold pread
  refine okr_bnd (okr_sum hn (okr_B hn 8) (fun j hj => by rw [tb_0] at hj; cases hj)) (fun p e lk rd h => ?_)
  split
  · exact okr_l
  · exact okr_r h
theorem bti_eq {x : Int32} : bti x.toInt = 1 <<< (x &&& 31) := by
  unfold bti
  rw [Int32.ofInt_toInt]
theorem nds_s0 {nd : Nat → Int32} {a n i i2 : Int32} (h : n = nds nd a i.toInt.toNat) (h0 : 0 ≤ i.toInt) (ht : ¬ tb a i.toInt.toNat = true) (hi : i2.toInt = i.toInt + 1) : n = nds nd a i2.toInt.toNat := by
  rw [show i2.toInt.toNat = i.toInt.toNat + 1 by omega]
  show n = (if tb a i.toInt.toNat = true then nds nd a i.toInt.toNat ||| nd i.toInt.toNat else nds nd a i.toInt.toNat)
  rw [if_neg ht]; exact h
theorem nds_s1 {nd : Nat → Int32} {a n i i2 x y : Int32} (h : n = nds nd a i.toInt.toNat) (h0 : 0 ≤ i.toInt) (ht : tb a i.toInt.toNat = true) (ex : x = n ||| y) (ey : y = nd i.toNatClampNeg) (hi : i2.toInt = i.toInt + 1) : x = nds nd a i2.toInt.toNat := by
  rw [show i2.toInt.toNat = i.toInt.toNat + 1 by omega]
  show x = (if tb a i.toInt.toNat = true then nds nd a i.toInt.toNat ||| nd i.toInt.toNat else nds nd a i.toInt.toNat)
  rw [if_pos ht, ex, ey, ← h]; rfl
/-- how many of the first models hold the bit -/
def hgc (f : Nat → Int32) (t : Nat) : Nat → Nat
  | 0 => 0
  | k + 1 => hgc f t k + (if tb (f k) t = true then 1 else 0)
theorem hgc_cong {f g : Nat → Int32} {t : Nat} : ∀ {n : Nat}, (∀ k, k < n → f k = g k) → hgc f t n = hgc g t n := by
  intro n
  induction n with
  | zero => intro _; rfl
  | succ n ih =>
    intro h
    show hgc f t n + (if tb (f n) t = true then 1 else 0) = hgc g t n + (if tb (g n) t = true then 1 else 0)
    rw [ih (fun k hk => h k (by omega)), h n (by omega)]
theorem hgc_0 {f : Nat → Int32} {t : Nat} {n n2 i i2 x : Int32} (h : n.toInt = (hgc f t i.toInt.toNat : Int)) (h0 : 0 ≤ i.toInt) (ex : x = f i.toInt.toNat) (ht : ¬ tb x t = true) (hn : n2.toInt = n.toInt) (hi : i2.toInt = i.toInt + 1) : n2.toInt = (hgc f t i2.toInt.toNat : Int) := by
  rw [show i2.toInt.toNat = i.toInt.toNat + 1 by omega]
  show n2.toInt = ((hgc f t i.toInt.toNat + (if tb (f i.toInt.toNat) t = true then 1 else 0) : Nat) : Int)
  rw [← ex, if_neg ht, hn, h]; rfl
theorem hgc_1 {f : Nat → Int32} {t : Nat} {n n2 i i2 x : Int32} (h : n.toInt = (hgc f t i.toInt.toNat : Int)) (h0 : 0 ≤ i.toInt) (ex : x = f i.toInt.toNat) (ht : tb x t = true) (hn : n2.toInt = n.toInt + 1) (hi : i2.toInt = i.toInt + 1) : n2.toInt = (hgc f t i2.toInt.toNat : Int) := by
  rw [show i2.toInt.toNat = i.toInt.toNat + 1 by omega]
  show n2.toInt = ((hgc f t i.toInt.toNat + (if tb (f i.toInt.toNat) t = true then 1 else 0) : Nat) : Int)
  rw [← ex, if_pos ht, hn, h]; rfl
/-- the reads of each trait of the reference -/
def rdR (f fA f0 : Nat → Int32) : Nat → Int32 := fun i => orb f fA (250 * i) (f0 i).toInt.toNat
theorem dsc_z {R : Nat → Int32} {a T i : Int32} (h : dsc R a (i.toInt + 1).toNat = T) (hi : i.toInt < 0) : a = T := by
  rw [show (i.toInt + 1).toNat = 0 by omega] at h
  exact h
theorem dsc_n {R : Nat → Int32} {a T i i2 : Int32} (h : dsc R a (i.toInt + 1).toNat = T) (h0 : 0 ≤ i.toInt) (ht : ¬ tb a i.toInt.toNat = true) (hi : i2.toInt = i.toInt - 1) : dsc R a (i2.toInt + 1).toNat = T := by
  rw [show (i.toInt + 1).toNat = i.toInt.toNat + 1 by omega] at h
  rw [show (i2.toInt + 1).toNat = i.toInt.toNat by omega, ← h]
  show _ = dsc R (if tb a i.toInt.toNat = true then a ||| R i.toInt.toNat else a) i.toInt.toNat
  rw [if_neg ht]
theorem dsc_y {R : Nat → Int32} {a b T i i2 : Int32} (h : dsc R a (i.toInt + 1).toNat = T) (h0 : 0 ≤ i.toInt) (ht : tb a i.toInt.toNat = true) (hb : b = a ||| R i.toInt.toNat) (hi : i2.toInt = i.toInt - 1) : dsc R b (i2.toInt + 1).toNat = T := by
  rw [show (i.toInt + 1).toNat = i.toInt.toNat + 1 by omega] at h
  rw [show (i2.toInt + 1).toNat = i.toInt.toNat by omega, ← h, hb]
  show _ = dsc R (if tb a i.toInt.toNat = true then a ||| R i.toInt.toNat else a) i.toInt.toNat
  rw [if_pos ht]
theorem or_0 (a : Int32) : a = a ||| 0 := by
  apply tb_ext
  intro j
  rw [tb_or, tb_0, Bool.or_false]
theorem or_as (a b c : Int32) : a ||| b ||| c = a ||| (b ||| c) := by
  apply tb_ext
  intro j
  simp only [tb_or, Bool.or_assoc]
theorem orb_n {f fA : Nat → Int32} {a b c i j j2 ix : Int32} (h : b = a ||| orb f fA (250 * i.toInt.toNat) j.toInt.toNat) (h0 : 0 ≤ i.toInt) (h1 : 0 ≤ j.toInt) (hx : ix.toInt = 250 * i.toInt + j.toInt) (ec : c = f ix.toNatClampNeg) (hc : ¬ c.toInt = 6) (hj : j2.toInt = j.toInt + 1) : b = a ||| orb f fA (250 * i.toInt.toNat) j2.toInt.toNat := by
  have e1 : ix.toNatClampNeg = 250 * i.toInt.toNat + j.toInt.toNat := by have : ix.toNatClampNeg = ix.toInt.toNat := rfl; omega
  rw [show j2.toInt.toNat = j.toInt.toNat + 1 by omega]
  show b = a ||| (if (f (250 * i.toInt.toNat + j.toInt.toNat)).toInt = 6 then orb f fA (250 * i.toInt.toNat) j.toInt.toNat ||| bti (fA (250 * i.toInt.toNat + j.toInt.toNat)).toInt else orb f fA (250 * i.toInt.toNat) j.toInt.toNat)
  rw [← e1, ← ec, if_neg hc]; exact h
theorem orb_y {f fA : Nat → Int32} {a b c d i j j2 ix iy x y : Int32} (h : b = a ||| orb f fA (250 * i.toInt.toNat) j.toInt.toNat) (h0 : 0 ≤ i.toInt) (h1 : 0 ≤ j.toInt) (hx : ix.toInt = 250 * i.toInt + j.toInt) (ec : c = f ix.toNatClampNeg) (hc : c.toInt = 6) (hy : iy.toInt = 250 * i.toInt + j.toInt) (ey : y = fA iy.toNatClampNeg) (ex : x = 1 <<< (y &&& 31)) (ed : d = b ||| x) (hj : j2.toInt = j.toInt + 1) : d = a ||| orb f fA (250 * i.toInt.toNat) j2.toInt.toNat := by
  have e1 : ix.toNatClampNeg = 250 * i.toInt.toNat + j.toInt.toNat := by have : ix.toNatClampNeg = ix.toInt.toNat := rfl; omega
  have e2 : iy.toNatClampNeg = 250 * i.toInt.toNat + j.toInt.toNat := by have : iy.toNatClampNeg = iy.toInt.toNat := rfl; omega
  rw [show j2.toInt.toNat = j.toInt.toNat + 1 by omega]
  show d = a ||| (if (f (250 * i.toInt.toNat + j.toInt.toNat)).toInt = 6 then orb f fA (250 * i.toInt.toNat) j.toInt.toNat ||| bti (fA (250 * i.toInt.toNat + j.toInt.toNat)).toInt else orb f fA (250 * i.toInt.toNat) j.toInt.toNat)
  rw [← e1, ← ec, if_pos hc, e1, ← e2, ← ey, bti_eq, ← ex, ← or_as, ← h]; exact ed

set_option maxHeartbeats 8000000 in
set_option maxRecDepth 100000 in
theorem k_X9_model (l : Launch) (dC : Nat → ClassId) (dI : Nat → Nat → Nat) (cA : Nat → ClassId) (sz : Nat) (am : Nat → Nat) (v_status : Int32) (v_now : Int32) (v_told : Int32) (v_merges : Int32) (v_taped : Int32) (v_size : Int32) (v_from : Int32) (v_to : Int32) (v_fault : Int32) (v_readFault : Int32) (v_traits : Int32) (v_length : Int32) (v_open : Int32) (v_leaks : Int32) (v_places : Int32) (v_models : Int32) (f_uses : Nat → Int32) (a : Int32) (i_v_now : 0 ≤ v_now.toInt ∧ v_now.toInt ≤ 100000) (i_v_told : 0 ≤ v_told.toInt ∧ v_told.toInt ≤ 400) (i_v_taped : 0 ≤ v_taped.toInt ∧ v_taped.toInt ≤ 200) (i_v_size : 0 ≤ v_size.toInt ∧ v_size.toInt ≤ 200) (i_v_from : 0 ≤ v_from.toInt ∧ v_from.toInt ≤ 200) (i_v_to : 0 ≤ v_to.toInt ∧ v_to.toInt ≤ 200) (i_v_traits : 0 ≤ v_traits.toInt ∧ v_traits.toInt ≤ 20) (i_v_length : 0 ≤ v_length.toInt ∧ v_length.toInt ≤ 200) (i_v_open : 0 ≤ v_open.toInt ∧ v_open.toInt ≤ 8) (i_v_places : 0 ≤ v_places.toInt ∧ v_places.toInt ≤ 2000) (i_v_models : 0 ≤ v_models.toInt ∧ v_models.toInt ≤ 10)  : Met l yX9_model wsX9_model ({ frames := 1, cells := 0, slots := 0, locals := 21 }) (va_Pc [.ref (am 0), .int a] (fun U => U.heap.size = sz ∧ va_P (dC, dI) vwCl [((am 0), .inr (9, F9 am v_status v_now v_told v_merges v_taped v_size v_from v_to v_fault v_readFault v_traits v_length v_open v_leaks v_places v_models)), ((am 33), .inl (cA 0, 10, .inl f_uses))] U.heap ∧ va_K (dC, dI) vwCl (tyL cA) U ∧ va_D (fun _ => True) [((am 0), .inr (9, F9 am v_status v_now v_told v_merges v_taped v_size v_from v_to v_fault v_readFault v_traits v_length v_open v_leaks v_places v_models)), ((am 33), .inl (cA 0, 10, .inl f_uses))] ∧ nw_ok U)) (va_Qi (fun (r : Int32) (u : Int32 × Int32 × (Nat → Int32)) => (0 ≤ u.2.1.toInt ∧ u.2.1.toInt ≤ 10) ∧ ((¬ (0 ≤ a.toInt ∧ a.toInt < 2 ^ v_traits.toInt.toNat) → r.toInt = (-1) ∧ u.2.1.toInt = v_models.toInt ∧ u.2.2 = f_uses) ∧ ((0 ≤ a.toInt ∧ a.toInt < 2 ^ v_traits.toInt.toNat) ∧ 10 ≤ v_models.toInt → r.toInt = (-5) ∧ u.2.1.toInt = v_models.toInt ∧ u.2.2 = f_uses) ∧ ((0 ≤ a.toInt ∧ a.toInt < 2 ^ v_traits.toInt.toNat) ∧ v_models.toInt < 10 → r.toInt = v_models.toInt ∧ u.2.1.toInt = v_models.toInt + 1 ∧ u.2.2 = upd f_uses v_models.toNatClampNeg a))) (fun (u : Int32 × Int32 × (Nat → Int32)) (t : State) => va_P (dC, dI) vwCl [((am 0), .inr (9, F9 am u.1 v_now v_told v_merges v_taped v_size v_from v_to v_fault v_readFault v_traits v_length v_open v_leaks v_places u.2.1)), ((am 33), .inl (cA 0, 10, .inl u.2.2))] t.heap ∧ va_D (va_A [((am 0), .inr (9, F9 am v_status v_now v_told v_merges v_taped v_size v_from v_to v_fault v_readFault v_traits v_length v_open v_leaks v_places v_models)), ((am 33), .inl (cA 0, 10, .inl f_uses))] sz) [((am 0), .inr (9, F9 am u.1 v_now v_told v_merges v_taped v_size v_from v_to v_fault v_readFault v_traits v_length v_open v_leaks v_places u.2.1)), ((am 33), .inl (cA 0, 10, .inl u.2.2))]) (va_A [((am 0), .inr (9, F9 am v_status v_now v_told v_merges v_taped v_size v_from v_to v_fault v_readFault v_traits v_length v_open v_leaks v_places v_models)), ((am 33), .inl (cA 0, 10, .inl f_uses))] sz)) 0 0 (va_A [((am 0), .inr (9, F9 am v_status v_now v_told v_merges v_taped v_size v_from v_to v_fault v_readFault v_traits v_length v_open v_leaks v_places v_models)), ((am 33), .inl (cA 0, 10, .inl f_uses))] sz) := by
  sorry
set_option maxHeartbeats 8000000 in
set_option maxRecDepth 100000 in
theorem k_X9_neededOf (l : Launch) (dC : Nat → ClassId) (dI : Nat → Nat → Nat) (cA : Nat → ClassId) (sz : Nat) (am : Nat → Nat) (v_status : Int32) (v_now : Int32) (v_told : Int32) (v_merges : Int32) (v_taped : Int32) (v_size : Int32) (v_from : Int32) (v_to : Int32) (v_fault : Int32) (v_readFault : Int32) (v_traits : Int32) (v_length : Int32) (v_open : Int32) (v_leaks : Int32) (v_places : Int32) (v_models : Int32) (f_uses : Nat → Int32) (f_size0 : Nat → Int32) (f_step : Nat → Int32) (f_stepA : Nat → Int32) (a : Int32) (i_v_now : 0 ≤ v_now.toInt ∧ v_now.toInt ≤ 100000) (i_v_told : 0 ≤ v_told.toInt ∧ v_told.toInt ≤ 400) (i_v_taped : 0 ≤ v_taped.toInt ∧ v_taped.toInt ≤ 200) (i_v_size : 0 ≤ v_size.toInt ∧ v_size.toInt ≤ 200) (i_v_from : 0 ≤ v_from.toInt ∧ v_from.toInt ≤ 200) (i_v_to : 0 ≤ v_to.toInt ∧ v_to.toInt ≤ 200) (i_v_traits : 0 ≤ v_traits.toInt ∧ v_traits.toInt ≤ 20) (i_v_length : 0 ≤ v_length.toInt ∧ v_length.toInt ≤ 200) (i_v_open : 0 ≤ v_open.toInt ∧ v_open.toInt ≤ 8) (i_v_places : 0 ≤ v_places.toInt ∧ v_places.toInt ≤ 2000) (i_v_models : 0 ≤ v_models.toInt ∧ v_models.toInt ≤ 10) (i_f_size0 : inB 0 200 20 f_size0) (ha : 0 ≤ a.toInt ∧ a.toInt ≤ 9) : Met l yX9_neededOf wsX9_neededOf ({ frames := 0, cells := 0, slots := 0, locals := 0 }) (va_Pc [.ref (am 0), .int a] (fun U => U.heap.size = sz ∧ va_P (dC, dI) vwCl [((am 0), .inr (9, F9 am v_status v_now v_told v_merges v_taped v_size v_from v_to v_fault v_readFault v_traits v_length v_open v_leaks v_places v_models)), ((am 33), .inl (cA 0, 10, .inl f_uses)), ((am 12), .inl (cA 0, 20, .inl f_size0)), ((am 13), .inl (cA 0, 5000, .inl f_step)), ((am 14), .inl (cA 0, 5000, .inl f_stepA))] U.heap ∧ va_K (dC, dI) vwCl (tyL cA) U ∧ va_D (fun _ => True) [((am 0), .inr (9, F9 am v_status v_now v_told v_merges v_taped v_size v_from v_to v_fault v_readFault v_traits v_length v_open v_leaks v_places v_models)), ((am 33), .inl (cA 0, 10, .inl f_uses)), ((am 12), .inl (cA 0, 20, .inl f_size0)), ((am 13), .inl (cA 0, 5000, .inl f_step)), ((am 14), .inl (cA 0, 5000, .inl f_stepA))] ∧ nw_ok U)) (va_Qi (fun (r : Int32) (_ : Unit) => (r = dsc (rdR f_step f_stepA f_size0) (f_uses a.toNatClampNeg) v_traits.toInt.toNat)) (fun (_ : Unit) (t : State) => va_P (dC, dI) vwCl [((am 0), .inr (9, F9 am v_status v_now v_told v_merges v_taped v_size v_from v_to v_fault v_readFault v_traits v_length v_open v_leaks v_places v_models)), ((am 33), .inl (cA 0, 10, .inl f_uses)), ((am 12), .inl (cA 0, 20, .inl f_size0)), ((am 13), .inl (cA 0, 5000, .inl f_step)), ((am 14), .inl (cA 0, 5000, .inl f_stepA))] t.heap ∧ va_D (va_A [((am 0), .inr (9, F9 am v_status v_now v_told v_merges v_taped v_size v_from v_to v_fault v_readFault v_traits v_length v_open v_leaks v_places v_models)), ((am 33), .inl (cA 0, 10, .inl f_uses)), ((am 12), .inl (cA 0, 20, .inl f_size0)), ((am 13), .inl (cA 0, 5000, .inl f_step)), ((am 14), .inl (cA 0, 5000, .inl f_stepA))] sz) [((am 0), .inr (9, F9 am v_status v_now v_told v_merges v_taped v_size v_from v_to v_fault v_readFault v_traits v_length v_open v_leaks v_places v_models)), ((am 33), .inl (cA 0, 10, .inl f_uses)), ((am 12), .inl (cA 0, 20, .inl f_size0)), ((am 13), .inl (cA 0, 5000, .inl f_step)), ((am 14), .inl (cA 0, 5000, .inl f_stepA))]) (va_A [((am 0), .inr (9, F9 am v_status v_now v_told v_merges v_taped v_size v_from v_to v_fault v_readFault v_traits v_length v_open v_leaks v_places v_models)), ((am 33), .inl (cA 0, 10, .inl f_uses)), ((am 12), .inl (cA 0, 20, .inl f_size0)), ((am 13), .inl (cA 0, 5000, .inl f_step)), ((am 14), .inl (cA 0, 5000, .inl f_stepA))] sz)) 0 0 (va_A [((am 0), .inr (9, F9 am v_status v_now v_told v_merges v_taped v_size v_from v_to v_fault v_readFault v_traits v_length v_open v_leaks v_places v_models)), ((am 33), .inl (cA 0, 10, .inl f_uses)), ((am 12), .inl (cA 0, 20, .inl f_size0)), ((am 13), .inl (cA 0, 5000, .inl f_step)), ((am 14), .inl (cA 0, 5000, .inl f_stepA))] sz) := by
  sorry
set_option maxHeartbeats 8000000 in
set_option maxRecDepth 100000 in
theorem k_X9_needed (l : Launch) (dC : Nat → ClassId) (dI : Nat → Nat → Nat) (cA : Nat → ClassId) (sz : Nat) (am : Nat → Nat) (v_status : Int32) (v_now : Int32) (v_told : Int32) (v_merges : Int32) (v_taped : Int32) (v_size : Int32) (v_from : Int32) (v_to : Int32) (v_fault : Int32) (v_readFault : Int32) (v_traits : Int32) (v_length : Int32) (v_open : Int32) (v_leaks : Int32) (v_places : Int32) (v_models : Int32) (f_uses : Nat → Int32) (f_size0 : Nat → Int32) (f_step : Nat → Int32) (f_stepA : Nat → Int32) (a : Int32) (i_v_now : 0 ≤ v_now.toInt ∧ v_now.toInt ≤ 100000) (i_v_told : 0 ≤ v_told.toInt ∧ v_told.toInt ≤ 400) (i_v_taped : 0 ≤ v_taped.toInt ∧ v_taped.toInt ≤ 200) (i_v_size : 0 ≤ v_size.toInt ∧ v_size.toInt ≤ 200) (i_v_from : 0 ≤ v_from.toInt ∧ v_from.toInt ≤ 200) (i_v_to : 0 ≤ v_to.toInt ∧ v_to.toInt ≤ 200) (i_v_traits : 0 ≤ v_traits.toInt ∧ v_traits.toInt ≤ 20) (i_v_length : 0 ≤ v_length.toInt ∧ v_length.toInt ≤ 200) (i_v_open : 0 ≤ v_open.toInt ∧ v_open.toInt ≤ 8) (i_v_places : 0 ≤ v_places.toInt ∧ v_places.toInt ≤ 2000) (i_v_models : 0 ≤ v_models.toInt ∧ v_models.toInt ≤ 10) (i_f_size0 : inB 0 200 20 f_size0)  : Met l yX9_needed wsX9_needed ({ frames := 1, cells := 0, slots := 0, locals := 25 }) (va_Pc [.ref (am 0), .int a] (fun U => U.heap.size = sz ∧ va_P (dC, dI) vwCl [((am 0), .inr (9, F9 am v_status v_now v_told v_merges v_taped v_size v_from v_to v_fault v_readFault v_traits v_length v_open v_leaks v_places v_models)), ((am 33), .inl (cA 0, 10, .inl f_uses)), ((am 12), .inl (cA 0, 20, .inl f_size0)), ((am 13), .inl (cA 0, 5000, .inl f_step)), ((am 14), .inl (cA 0, 5000, .inl f_stepA))] U.heap ∧ va_K (dC, dI) vwCl (tyL cA) U ∧ va_D (fun _ => True) [((am 0), .inr (9, F9 am v_status v_now v_told v_merges v_taped v_size v_from v_to v_fault v_readFault v_traits v_length v_open v_leaks v_places v_models)), ((am 33), .inl (cA 0, 10, .inl f_uses)), ((am 12), .inl (cA 0, 20, .inl f_size0)), ((am 13), .inl (cA 0, 5000, .inl f_step)), ((am 14), .inl (cA 0, 5000, .inl f_stepA))] ∧ nw_ok U)) (va_Qi (fun (r : Int32) (_ : Unit) => ((0 ≤ a.toInt ∧ a.toInt < v_models.toInt → r = dsc (rdR f_step f_stepA f_size0) (f_uses a.toNatClampNeg) v_traits.toInt.toNat) ∧ (¬ (0 ≤ a.toInt ∧ a.toInt < v_models.toInt) → r.toInt = 0))) (fun (_ : Unit) (t : State) => va_P (dC, dI) vwCl [((am 0), .inr (9, F9 am v_status v_now v_told v_merges v_taped v_size v_from v_to v_fault v_readFault v_traits v_length v_open v_leaks v_places v_models)), ((am 33), .inl (cA 0, 10, .inl f_uses)), ((am 12), .inl (cA 0, 20, .inl f_size0)), ((am 13), .inl (cA 0, 5000, .inl f_step)), ((am 14), .inl (cA 0, 5000, .inl f_stepA))] t.heap ∧ va_D (va_A [((am 0), .inr (9, F9 am v_status v_now v_told v_merges v_taped v_size v_from v_to v_fault v_readFault v_traits v_length v_open v_leaks v_places v_models)), ((am 33), .inl (cA 0, 10, .inl f_uses)), ((am 12), .inl (cA 0, 20, .inl f_size0)), ((am 13), .inl (cA 0, 5000, .inl f_step)), ((am 14), .inl (cA 0, 5000, .inl f_stepA))] sz) [((am 0), .inr (9, F9 am v_status v_now v_told v_merges v_taped v_size v_from v_to v_fault v_readFault v_traits v_length v_open v_leaks v_places v_models)), ((am 33), .inl (cA 0, 10, .inl f_uses)), ((am 12), .inl (cA 0, 20, .inl f_size0)), ((am 13), .inl (cA 0, 5000, .inl f_step)), ((am 14), .inl (cA 0, 5000, .inl f_stepA))]) (va_A [((am 0), .inr (9, F9 am v_status v_now v_told v_merges v_taped v_size v_from v_to v_fault v_readFault v_traits v_length v_open v_leaks v_places v_models)), ((am 33), .inl (cA 0, 10, .inl f_uses)), ((am 12), .inl (cA 0, 20, .inl f_size0)), ((am 13), .inl (cA 0, 5000, .inl f_step)), ((am 14), .inl (cA 0, 5000, .inl f_stepA))] sz)) 0 0 (va_A [((am 0), .inr (9, F9 am v_status v_now v_told v_merges v_taped v_size v_from v_to v_fault v_readFault v_traits v_length v_open v_leaks v_places v_models)), ((am 33), .inl (cA 0, 10, .inl f_uses)), ((am 12), .inl (cA 0, 20, .inl f_size0)), ((am 13), .inl (cA 0, 5000, .inl f_step)), ((am 14), .inl (cA 0, 5000, .inl f_stepA))] sz) := by
  sorry
set_option maxHeartbeats 8000000 in
set_option maxRecDepth 100000 in
theorem k_X9_hung (l : Launch) (dC : Nat → ClassId) (dI : Nat → Nat → Nat) (cA : Nat → ClassId) (sz : Nat) (am : Nat → Nat) (v_status : Int32) (v_now : Int32) (v_told : Int32) (v_merges : Int32) (v_taped : Int32) (v_size : Int32) (v_from : Int32) (v_to : Int32) (v_fault : Int32) (v_readFault : Int32) (v_traits : Int32) (v_length : Int32) (v_open : Int32) (v_leaks : Int32) (v_places : Int32) (v_models : Int32) (f_uses : Nat → Int32) (f_size0 : Nat → Int32) (f_step : Nat → Int32) (f_stepA : Nat → Int32) (a : Int32) (i_v_now : 0 ≤ v_now.toInt ∧ v_now.toInt ≤ 100000) (i_v_told : 0 ≤ v_told.toInt ∧ v_told.toInt ≤ 400) (i_v_taped : 0 ≤ v_taped.toInt ∧ v_taped.toInt ≤ 200) (i_v_size : 0 ≤ v_size.toInt ∧ v_size.toInt ≤ 200) (i_v_from : 0 ≤ v_from.toInt ∧ v_from.toInt ≤ 200) (i_v_to : 0 ≤ v_to.toInt ∧ v_to.toInt ≤ 200) (i_v_traits : 0 ≤ v_traits.toInt ∧ v_traits.toInt ≤ 20) (i_v_length : 0 ≤ v_length.toInt ∧ v_length.toInt ≤ 200) (i_v_open : 0 ≤ v_open.toInt ∧ v_open.toInt ≤ 8) (i_v_places : 0 ≤ v_places.toInt ∧ v_places.toInt ≤ 2000) (i_v_models : 0 ≤ v_models.toInt ∧ v_models.toInt ≤ 10) (i_f_size0 : inB 0 200 20 f_size0)  : Met l yX9_hung wsX9_hung ({ frames := 2, cells := 0, slots := 0, locals := 46 }) (va_Pc [.ref (am 0), .int a] (fun U => U.heap.size = sz ∧ va_P (dC, dI) vwCl [((am 0), .inr (9, F9 am v_status v_now v_told v_merges v_taped v_size v_from v_to v_fault v_readFault v_traits v_length v_open v_leaks v_places v_models)), ((am 33), .inl (cA 0, 10, .inl f_uses)), ((am 12), .inl (cA 0, 20, .inl f_size0)), ((am 13), .inl (cA 0, 5000, .inl f_step)), ((am 14), .inl (cA 0, 5000, .inl f_stepA))] U.heap ∧ va_K (dC, dI) vwCl (tyL cA) U ∧ va_D (fun _ => True) [((am 0), .inr (9, F9 am v_status v_now v_told v_merges v_taped v_size v_from v_to v_fault v_readFault v_traits v_length v_open v_leaks v_places v_models)), ((am 33), .inl (cA 0, 10, .inl f_uses)), ((am 12), .inl (cA 0, 20, .inl f_size0)), ((am 13), .inl (cA 0, 5000, .inl f_step)), ((am 14), .inl (cA 0, 5000, .inl f_stepA))] ∧ nw_ok U)) (va_Qi (fun (r : Int32) (_ : Unit) => ((0 ≤ a.toInt ∧ a.toInt < v_traits.toInt → r.toInt = (hgc (fun k => dsc (rdR f_step f_stepA f_size0) (f_uses k) v_traits.toInt.toNat) a.toInt.toNat v_models.toInt.toNat : Int)) ∧ (¬ (0 ≤ a.toInt ∧ a.toInt < v_traits.toInt) → r.toInt = (-1)))) (fun (_ : Unit) (t : State) => va_P (dC, dI) vwCl [((am 0), .inr (9, F9 am v_status v_now v_told v_merges v_taped v_size v_from v_to v_fault v_readFault v_traits v_length v_open v_leaks v_places v_models)), ((am 33), .inl (cA 0, 10, .inl f_uses)), ((am 12), .inl (cA 0, 20, .inl f_size0)), ((am 13), .inl (cA 0, 5000, .inl f_step)), ((am 14), .inl (cA 0, 5000, .inl f_stepA))] t.heap ∧ va_D (va_A [((am 0), .inr (9, F9 am v_status v_now v_told v_merges v_taped v_size v_from v_to v_fault v_readFault v_traits v_length v_open v_leaks v_places v_models)), ((am 33), .inl (cA 0, 10, .inl f_uses)), ((am 12), .inl (cA 0, 20, .inl f_size0)), ((am 13), .inl (cA 0, 5000, .inl f_step)), ((am 14), .inl (cA 0, 5000, .inl f_stepA))] sz) [((am 0), .inr (9, F9 am v_status v_now v_told v_merges v_taped v_size v_from v_to v_fault v_readFault v_traits v_length v_open v_leaks v_places v_models)), ((am 33), .inl (cA 0, 10, .inl f_uses)), ((am 12), .inl (cA 0, 20, .inl f_size0)), ((am 13), .inl (cA 0, 5000, .inl f_step)), ((am 14), .inl (cA 0, 5000, .inl f_stepA))]) (va_A [((am 0), .inr (9, F9 am v_status v_now v_told v_merges v_taped v_size v_from v_to v_fault v_readFault v_traits v_length v_open v_leaks v_places v_models)), ((am 33), .inl (cA 0, 10, .inl f_uses)), ((am 12), .inl (cA 0, 20, .inl f_size0)), ((am 13), .inl (cA 0, 5000, .inl f_step)), ((am 14), .inl (cA 0, 5000, .inl f_stepA))] sz)) 0 0 (va_A [((am 0), .inr (9, F9 am v_status v_now v_told v_merges v_taped v_size v_from v_to v_fault v_readFault v_traits v_length v_open v_leaks v_places v_models)), ((am 33), .inl (cA 0, 10, .inl f_uses)), ((am 12), .inl (cA 0, 20, .inl f_size0)), ((am 13), .inl (cA 0, 5000, .inl f_step)), ((am 14), .inl (cA 0, 5000, .inl f_stepA))] sz) := by
  sorry
set_option maxHeartbeats 8000000 in
set_option maxRecDepth 100000 in
theorem k_X9_isKept (l : Launch) (dC : Nat → ClassId) (dI : Nat → Nat → Nat) (cA : Nat → ClassId) (sz : Nat) (am : Nat → Nat) (v_status : Int32) (v_now : Int32) (v_told : Int32) (v_merges : Int32) (v_taped : Int32) (v_size : Int32) (v_from : Int32) (v_to : Int32) (v_fault : Int32) (v_readFault : Int32) (v_traits : Int32) (v_length : Int32) (v_open : Int32) (v_leaks : Int32) (v_places : Int32) (v_models : Int32) (f_hasKept : Nat → Int32) (tt : Int32) (pp : Int32) (i_v_now : 0 ≤ v_now.toInt ∧ v_now.toInt ≤ 100000) (i_v_told : 0 ≤ v_told.toInt ∧ v_told.toInt ≤ 400) (i_v_taped : 0 ≤ v_taped.toInt ∧ v_taped.toInt ≤ 200) (i_v_size : 0 ≤ v_size.toInt ∧ v_size.toInt ≤ 200) (i_v_from : 0 ≤ v_from.toInt ∧ v_from.toInt ≤ 200) (i_v_to : 0 ≤ v_to.toInt ∧ v_to.toInt ≤ 200) (i_v_traits : 0 ≤ v_traits.toInt ∧ v_traits.toInt ≤ 20) (i_v_length : 0 ≤ v_length.toInt ∧ v_length.toInt ≤ 200) (i_v_open : 0 ≤ v_open.toInt ∧ v_open.toInt ≤ 8) (i_v_places : 0 ≤ v_places.toInt ∧ v_places.toInt ≤ 2000) (i_v_models : 0 ≤ v_models.toInt ∧ v_models.toInt ≤ 10)  : Met l yX9_isKept wsX9_isKept ({ frames := 2, cells := 0, slots := 0, locals := 46 }) (va_Pc [.ref (am 0), .int tt, .int pp] (fun U => U.heap.size = sz ∧ va_P (dC, dI) vwCl [((am 0), .inr (9, F9 am v_status v_now v_told v_merges v_taped v_size v_from v_to v_fault v_readFault v_traits v_length v_open v_leaks v_places v_models)), ((am 25), .inl (cA 2, 400, .inl f_hasKept))] U.heap ∧ va_K (dC, dI) vwCl (tyL cA) U ∧ va_D (fun _ => True) [((am 0), .inr (9, F9 am v_status v_now v_told v_merges v_taped v_size v_from v_to v_fault v_readFault v_traits v_length v_open v_leaks v_places v_models)), ((am 25), .inl (cA 2, 400, .inl f_hasKept))] ∧ nw_ok U)) (va_Qi (fun (r : Int32) (_ : Unit) => ((0 ≤ r.toInt ∧ r.toInt ≤ 1) ∧ (¬ r.toInt = 0 → 0 ≤ tt.toInt ∧ tt.toInt ≤ 19 ∧ 0 ≤ pp.toInt ∧ pp.toInt ≤ 19))) (fun (_ : Unit) (t : State) => va_P (dC, dI) vwCl [((am 0), .inr (9, F9 am v_status v_now v_told v_merges v_taped v_size v_from v_to v_fault v_readFault v_traits v_length v_open v_leaks v_places v_models)), ((am 25), .inl (cA 2, 400, .inl f_hasKept))] t.heap ∧ va_D (va_A [((am 0), .inr (9, F9 am v_status v_now v_told v_merges v_taped v_size v_from v_to v_fault v_readFault v_traits v_length v_open v_leaks v_places v_models)), ((am 25), .inl (cA 2, 400, .inl f_hasKept))] sz) [((am 0), .inr (9, F9 am v_status v_now v_told v_merges v_taped v_size v_from v_to v_fault v_readFault v_traits v_length v_open v_leaks v_places v_models)), ((am 25), .inl (cA 2, 400, .inl f_hasKept))]) (va_A [((am 0), .inr (9, F9 am v_status v_now v_told v_merges v_taped v_size v_from v_to v_fault v_readFault v_traits v_length v_open v_leaks v_places v_models)), ((am 25), .inl (cA 2, 400, .inl f_hasKept))] sz)) 0 0 (va_A [((am 0), .inr (9, F9 am v_status v_now v_told v_merges v_taped v_size v_from v_to v_fault v_readFault v_traits v_length v_open v_leaks v_places v_models)), ((am 25), .inl (cA 2, 400, .inl f_hasKept))] sz) := by
  sorry
set_option maxHeartbeats 8000000 in
set_option maxRecDepth 100000 in
theorem k_X9_kept (l : Launch) (dC : Nat → ClassId) (dI : Nat → Nat → Nat) (cA : Nat → ClassId) (sz : Nat) (am : Nat → Nat) (v_status : Int32) (v_now : Int32) (v_told : Int32) (v_merges : Int32) (v_taped : Int32) (v_size : Int32) (v_from : Int32) (v_to : Int32) (v_fault : Int32) (v_readFault : Int32) (v_traits : Int32) (v_length : Int32) (v_open : Int32) (v_leaks : Int32) (v_places : Int32) (v_models : Int32) (f_hasKept : Nat → Int32) (f_kept : Nat → Int64) (tt : Int32) (pp : Int32) (i_v_now : 0 ≤ v_now.toInt ∧ v_now.toInt ≤ 100000) (i_v_told : 0 ≤ v_told.toInt ∧ v_told.toInt ≤ 400) (i_v_taped : 0 ≤ v_taped.toInt ∧ v_taped.toInt ≤ 200) (i_v_size : 0 ≤ v_size.toInt ∧ v_size.toInt ≤ 200) (i_v_from : 0 ≤ v_from.toInt ∧ v_from.toInt ≤ 200) (i_v_to : 0 ≤ v_to.toInt ∧ v_to.toInt ≤ 200) (i_v_traits : 0 ≤ v_traits.toInt ∧ v_traits.toInt ≤ 20) (i_v_length : 0 ≤ v_length.toInt ∧ v_length.toInt ≤ 200) (i_v_open : 0 ≤ v_open.toInt ∧ v_open.toInt ≤ 8) (i_v_places : 0 ≤ v_places.toInt ∧ v_places.toInt ≤ 2000) (i_v_models : 0 ≤ v_models.toInt ∧ v_models.toInt ≤ 10)  : Met l yX9_kept wsX9_kept ({ frames := 3, cells := 0, slots := 0, locals := 68 }) (va_Pc [.ref (am 0), .int tt, .int pp] (fun U => U.heap.size = sz ∧ va_P (dC, dI) vwCl [((am 0), .inr (9, F9 am v_status v_now v_told v_merges v_taped v_size v_from v_to v_fault v_readFault v_traits v_length v_open v_leaks v_places v_models)), ((am 25), .inl (cA 2, 400, .inl f_hasKept)), ((am 26), .inl (cA 1, 400, .inr (.inl f_kept)))] U.heap ∧ va_K (dC, dI) vwCl (tyL cA) U ∧ va_D (fun _ => True) [((am 0), .inr (9, F9 am v_status v_now v_told v_merges v_taped v_size v_from v_to v_fault v_readFault v_traits v_length v_open v_leaks v_places v_models)), ((am 25), .inl (cA 2, 400, .inl f_hasKept)), ((am 26), .inl (cA 1, 400, .inr (.inl f_kept)))] ∧ nw_ok U)) (va_Ql (fun (r : Int64) (_ : Unit) => True) (fun (_ : Unit) (t : State) => va_P (dC, dI) vwCl [((am 0), .inr (9, F9 am v_status v_now v_told v_merges v_taped v_size v_from v_to v_fault v_readFault v_traits v_length v_open v_leaks v_places v_models)), ((am 25), .inl (cA 2, 400, .inl f_hasKept)), ((am 26), .inl (cA 1, 400, .inr (.inl f_kept)))] t.heap ∧ va_D (va_A [((am 0), .inr (9, F9 am v_status v_now v_told v_merges v_taped v_size v_from v_to v_fault v_readFault v_traits v_length v_open v_leaks v_places v_models)), ((am 25), .inl (cA 2, 400, .inl f_hasKept)), ((am 26), .inl (cA 1, 400, .inr (.inl f_kept)))] sz) [((am 0), .inr (9, F9 am v_status v_now v_told v_merges v_taped v_size v_from v_to v_fault v_readFault v_traits v_length v_open v_leaks v_places v_models)), ((am 25), .inl (cA 2, 400, .inl f_hasKept)), ((am 26), .inl (cA 1, 400, .inr (.inl f_kept)))]) (va_A [((am 0), .inr (9, F9 am v_status v_now v_told v_merges v_taped v_size v_from v_to v_fault v_readFault v_traits v_length v_open v_leaks v_places v_models)), ((am 25), .inl (cA 2, 400, .inl f_hasKept)), ((am 26), .inl (cA 1, 400, .inr (.inl f_kept)))] sz)) 0 0 (va_A [((am 0), .inr (9, F9 am v_status v_now v_told v_merges v_taped v_size v_from v_to v_fault v_readFault v_traits v_length v_open v_leaks v_places v_models)), ((am 25), .inl (cA 2, 400, .inl f_hasKept)), ((am 26), .inl (cA 1, 400, .inr (.inl f_kept)))] sz) := by
  sorry
set_option maxHeartbeats 8000000 in
set_option maxRecDepth 100000 in
theorem k_X9_age (l : Launch) (dC : Nat → ClassId) (dI : Nat → Nat → Nat) (cA : Nat → ClassId) (sz : Nat) (am : Nat → Nat) (v_status : Int32) (v_now : Int32) (v_told : Int32) (v_merges : Int32) (v_taped : Int32) (v_size : Int32) (v_from : Int32) (v_to : Int32) (v_fault : Int32) (v_readFault : Int32) (v_traits : Int32) (v_length : Int32) (v_open : Int32) (v_leaks : Int32) (v_places : Int32) (v_models : Int32) (f_hasKept : Nat → Int32) (f_keptAt : Nat → Int32) (f_limits : Nat → Int32) (tt : Int32) (pp : Int32) (w : Int32) (i_v_now : 0 ≤ v_now.toInt ∧ v_now.toInt ≤ 100000) (i_v_told : 0 ≤ v_told.toInt ∧ v_told.toInt ≤ 400) (i_v_taped : 0 ≤ v_taped.toInt ∧ v_taped.toInt ≤ 200) (i_v_size : 0 ≤ v_size.toInt ∧ v_size.toInt ≤ 200) (i_v_from : 0 ≤ v_from.toInt ∧ v_from.toInt ≤ 200) (i_v_to : 0 ≤ v_to.toInt ∧ v_to.toInt ≤ 200) (i_v_traits : 0 ≤ v_traits.toInt ∧ v_traits.toInt ≤ 20) (i_v_length : 0 ≤ v_length.toInt ∧ v_length.toInt ≤ 200) (i_v_open : 0 ≤ v_open.toInt ∧ v_open.toInt ≤ 8) (i_v_places : 0 ≤ v_places.toInt ∧ v_places.toInt ≤ 2000) (i_v_models : 0 ≤ v_models.toInt ∧ v_models.toInt ≤ 10)  : Met l yX9_age wsX9_age ({ frames := 3, cells := 0, slots := 0, locals := 68 }) (va_Pc [.ref (am 0), .int tt, .int pp, .int w] (fun U => U.heap.size = sz ∧ va_P (dC, dI) vwCl [((am 0), .inr (9, F9 am v_status v_now v_told v_merges v_taped v_size v_from v_to v_fault v_readFault v_traits v_length v_open v_leaks v_places v_models)), ((am 25), .inl (cA 2, 400, .inl f_hasKept)), ((am 27), .inl (cA 0, 400, .inl f_keptAt)), ((am 23), .inl (cA 0, 20, .inl f_limits))] U.heap ∧ va_K (dC, dI) vwCl (tyL cA) U ∧ va_D (fun _ => True) [((am 0), .inr (9, F9 am v_status v_now v_told v_merges v_taped v_size v_from v_to v_fault v_readFault v_traits v_length v_open v_leaks v_places v_models)), ((am 25), .inl (cA 2, 400, .inl f_hasKept)), ((am 27), .inl (cA 0, 400, .inl f_keptAt)), ((am 23), .inl (cA 0, 20, .inl f_limits))] ∧ nw_ok U)) (va_Qi (fun (r : Int32) (_ : Unit) => True) (fun (_ : Unit) (t : State) => va_P (dC, dI) vwCl [((am 0), .inr (9, F9 am v_status v_now v_told v_merges v_taped v_size v_from v_to v_fault v_readFault v_traits v_length v_open v_leaks v_places v_models)), ((am 25), .inl (cA 2, 400, .inl f_hasKept)), ((am 27), .inl (cA 0, 400, .inl f_keptAt)), ((am 23), .inl (cA 0, 20, .inl f_limits))] t.heap ∧ va_D (va_A [((am 0), .inr (9, F9 am v_status v_now v_told v_merges v_taped v_size v_from v_to v_fault v_readFault v_traits v_length v_open v_leaks v_places v_models)), ((am 25), .inl (cA 2, 400, .inl f_hasKept)), ((am 27), .inl (cA 0, 400, .inl f_keptAt)), ((am 23), .inl (cA 0, 20, .inl f_limits))] sz) [((am 0), .inr (9, F9 am v_status v_now v_told v_merges v_taped v_size v_from v_to v_fault v_readFault v_traits v_length v_open v_leaks v_places v_models)), ((am 25), .inl (cA 2, 400, .inl f_hasKept)), ((am 27), .inl (cA 0, 400, .inl f_keptAt)), ((am 23), .inl (cA 0, 20, .inl f_limits))]) (va_A [((am 0), .inr (9, F9 am v_status v_now v_told v_merges v_taped v_size v_from v_to v_fault v_readFault v_traits v_length v_open v_leaks v_places v_models)), ((am 25), .inl (cA 2, 400, .inl f_hasKept)), ((am 27), .inl (cA 0, 400, .inl f_keptAt)), ((am 23), .inl (cA 0, 20, .inl f_limits))] sz)) 0 0 (va_A [((am 0), .inr (9, F9 am v_status v_now v_told v_merges v_taped v_size v_from v_to v_fault v_readFault v_traits v_length v_open v_leaks v_places v_models)), ((am 25), .inl (cA 2, 400, .inl f_hasKept)), ((am 27), .inl (cA 0, 400, .inl f_keptAt)), ((am 23), .inl (cA 0, 20, .inl f_limits))] sz) := by
  sorry
set_option maxHeartbeats 8000000 in
set_option maxRecDepth 100000 in
theorem k_X9_held (l : Launch) (dC : Nat → ClassId) (dI : Nat → Nat → Nat) (cA : Nat → ClassId) (sz : Nat) (am : Nat → Nat) (v_status : Int32) (v_now : Int32) (v_told : Int32) (v_merges : Int32) (v_taped : Int32) (v_size : Int32) (v_from : Int32) (v_to : Int32) (v_fault : Int32) (v_readFault : Int32) (v_traits : Int32) (v_length : Int32) (v_open : Int32) (v_leaks : Int32) (v_places : Int32) (v_models : Int32) (f_held : Nat → Int32) (tt : Int32) (i_v_now : 0 ≤ v_now.toInt ∧ v_now.toInt ≤ 100000) (i_v_told : 0 ≤ v_told.toInt ∧ v_told.toInt ≤ 400) (i_v_taped : 0 ≤ v_taped.toInt ∧ v_taped.toInt ≤ 200) (i_v_size : 0 ≤ v_size.toInt ∧ v_size.toInt ≤ 200) (i_v_from : 0 ≤ v_from.toInt ∧ v_from.toInt ≤ 200) (i_v_to : 0 ≤ v_to.toInt ∧ v_to.toInt ≤ 200) (i_v_traits : 0 ≤ v_traits.toInt ∧ v_traits.toInt ≤ 20) (i_v_length : 0 ≤ v_length.toInt ∧ v_length.toInt ≤ 200) (i_v_open : 0 ≤ v_open.toInt ∧ v_open.toInt ≤ 8) (i_v_places : 0 ≤ v_places.toInt ∧ v_places.toInt ≤ 2000) (i_v_models : 0 ≤ v_models.toInt ∧ v_models.toInt ≤ 10)  : Met l yX9_held wsX9_held ({ frames := 2, cells := 0, slots := 0, locals := 46 }) (va_Pc [.ref (am 0), .int tt] (fun U => U.heap.size = sz ∧ va_P (dC, dI) vwCl [((am 0), .inr (9, F9 am v_status v_now v_told v_merges v_taped v_size v_from v_to v_fault v_readFault v_traits v_length v_open v_leaks v_places v_models)), ((am 24), .inl (cA 0, 20, .inl f_held))] U.heap ∧ va_K (dC, dI) vwCl (tyL cA) U ∧ va_D (fun _ => True) [((am 0), .inr (9, F9 am v_status v_now v_told v_merges v_taped v_size v_from v_to v_fault v_readFault v_traits v_length v_open v_leaks v_places v_models)), ((am 24), .inl (cA 0, 20, .inl f_held))] ∧ nw_ok U)) (va_Qi (fun (r : Int32) (_ : Unit) => True) (fun (_ : Unit) (t : State) => va_P (dC, dI) vwCl [((am 0), .inr (9, F9 am v_status v_now v_told v_merges v_taped v_size v_from v_to v_fault v_readFault v_traits v_length v_open v_leaks v_places v_models)), ((am 24), .inl (cA 0, 20, .inl f_held))] t.heap ∧ va_D (va_A [((am 0), .inr (9, F9 am v_status v_now v_told v_merges v_taped v_size v_from v_to v_fault v_readFault v_traits v_length v_open v_leaks v_places v_models)), ((am 24), .inl (cA 0, 20, .inl f_held))] sz) [((am 0), .inr (9, F9 am v_status v_now v_told v_merges v_taped v_size v_from v_to v_fault v_readFault v_traits v_length v_open v_leaks v_places v_models)), ((am 24), .inl (cA 0, 20, .inl f_held))]) (va_A [((am 0), .inr (9, F9 am v_status v_now v_told v_merges v_taped v_size v_from v_to v_fault v_readFault v_traits v_length v_open v_leaks v_places v_models)), ((am 24), .inl (cA 0, 20, .inl f_held))] sz)) 0 0 (va_A [((am 0), .inr (9, F9 am v_status v_now v_told v_merges v_taped v_size v_from v_to v_fault v_readFault v_traits v_length v_open v_leaks v_places v_models)), ((am 24), .inl (cA 0, 20, .inl f_held))] sz) := by
  sorry
set_option maxHeartbeats 8000000 in
set_option maxRecDepth 100000 in
theorem k_X9_misses (l : Launch) (dC : Nat → ClassId) (dI : Nat → Nat → Nat) (cA : Nat → ClassId) (sz : Nat) (am : Nat → Nat) (v_status : Int32) (v_now : Int32) (v_told : Int32) (v_merges : Int32) (v_taped : Int32) (v_size : Int32) (v_from : Int32) (v_to : Int32) (v_fault : Int32) (v_readFault : Int32) (v_traits : Int32) (v_length : Int32) (v_open : Int32) (v_leaks : Int32) (v_places : Int32) (v_models : Int32) (f_uses : Nat → Int32) (f_size0 : Nat → Int32) (f_step : Nat → Int32) (f_stepA : Nat → Int32) (f_hasKept : Nat → Int32) (f_kept : Nat → Int64) (f_keptAt : Nat → Int32) (f_limits : Nat → Int32) (a : Int32) (pp : Int32) (i_v_now : 0 ≤ v_now.toInt ∧ v_now.toInt ≤ 100000) (i_v_told : 0 ≤ v_told.toInt ∧ v_told.toInt ≤ 400) (i_v_taped : 0 ≤ v_taped.toInt ∧ v_taped.toInt ≤ 200) (i_v_size : 0 ≤ v_size.toInt ∧ v_size.toInt ≤ 200) (i_v_from : 0 ≤ v_from.toInt ∧ v_from.toInt ≤ 200) (i_v_to : 0 ≤ v_to.toInt ∧ v_to.toInt ≤ 200) (i_v_traits : 0 ≤ v_traits.toInt ∧ v_traits.toInt ≤ 20) (i_v_length : 0 ≤ v_length.toInt ∧ v_length.toInt ≤ 200) (i_v_open : 0 ≤ v_open.toInt ∧ v_open.toInt ≤ 8) (i_v_places : 0 ≤ v_places.toInt ∧ v_places.toInt ≤ 2000) (i_v_models : 0 ≤ v_models.toInt ∧ v_models.toInt ≤ 10) (i_f_size0 : inB 0 200 20 f_size0)  : Met l yX9_misses wsX9_misses ({ frames := 4, cells := 0, slots := 0, locals := 92 }) (va_Pc [.ref (am 0), .int a, .int pp] (fun U => U.heap.size = sz ∧ va_P (dC, dI) vwCl [((am 0), .inr (9, F9 am v_status v_now v_told v_merges v_taped v_size v_from v_to v_fault v_readFault v_traits v_length v_open v_leaks v_places v_models)), ((am 33), .inl (cA 0, 10, .inl f_uses)), ((am 12), .inl (cA 0, 20, .inl f_size0)), ((am 13), .inl (cA 0, 5000, .inl f_step)), ((am 14), .inl (cA 0, 5000, .inl f_stepA)), ((am 25), .inl (cA 2, 400, .inl f_hasKept)), ((am 26), .inl (cA 1, 400, .inr (.inl f_kept))), ((am 27), .inl (cA 0, 400, .inl f_keptAt)), ((am 23), .inl (cA 0, 20, .inl f_limits))] U.heap ∧ va_K (dC, dI) vwCl (tyL cA) U ∧ va_D (fun _ => True) [((am 0), .inr (9, F9 am v_status v_now v_told v_merges v_taped v_size v_from v_to v_fault v_readFault v_traits v_length v_open v_leaks v_places v_models)), ((am 33), .inl (cA 0, 10, .inl f_uses)), ((am 12), .inl (cA 0, 20, .inl f_size0)), ((am 13), .inl (cA 0, 5000, .inl f_step)), ((am 14), .inl (cA 0, 5000, .inl f_stepA)), ((am 25), .inl (cA 2, 400, .inl f_hasKept)), ((am 26), .inl (cA 1, 400, .inr (.inl f_kept))), ((am 27), .inl (cA 0, 400, .inl f_keptAt)), ((am 23), .inl (cA 0, 20, .inl f_limits))] ∧ nw_ok U)) (va_Qi (fun (r : Int32) (_ : Unit) => True) (fun (_ : Unit) (t : State) => va_P (dC, dI) vwCl [((am 0), .inr (9, F9 am v_status v_now v_told v_merges v_taped v_size v_from v_to v_fault v_readFault v_traits v_length v_open v_leaks v_places v_models)), ((am 33), .inl (cA 0, 10, .inl f_uses)), ((am 12), .inl (cA 0, 20, .inl f_size0)), ((am 13), .inl (cA 0, 5000, .inl f_step)), ((am 14), .inl (cA 0, 5000, .inl f_stepA)), ((am 25), .inl (cA 2, 400, .inl f_hasKept)), ((am 26), .inl (cA 1, 400, .inr (.inl f_kept))), ((am 27), .inl (cA 0, 400, .inl f_keptAt)), ((am 23), .inl (cA 0, 20, .inl f_limits))] t.heap ∧ va_D (va_A [((am 0), .inr (9, F9 am v_status v_now v_told v_merges v_taped v_size v_from v_to v_fault v_readFault v_traits v_length v_open v_leaks v_places v_models)), ((am 33), .inl (cA 0, 10, .inl f_uses)), ((am 12), .inl (cA 0, 20, .inl f_size0)), ((am 13), .inl (cA 0, 5000, .inl f_step)), ((am 14), .inl (cA 0, 5000, .inl f_stepA)), ((am 25), .inl (cA 2, 400, .inl f_hasKept)), ((am 26), .inl (cA 1, 400, .inr (.inl f_kept))), ((am 27), .inl (cA 0, 400, .inl f_keptAt)), ((am 23), .inl (cA 0, 20, .inl f_limits))] sz) [((am 0), .inr (9, F9 am v_status v_now v_told v_merges v_taped v_size v_from v_to v_fault v_readFault v_traits v_length v_open v_leaks v_places v_models)), ((am 33), .inl (cA 0, 10, .inl f_uses)), ((am 12), .inl (cA 0, 20, .inl f_size0)), ((am 13), .inl (cA 0, 5000, .inl f_step)), ((am 14), .inl (cA 0, 5000, .inl f_stepA)), ((am 25), .inl (cA 2, 400, .inl f_hasKept)), ((am 26), .inl (cA 1, 400, .inr (.inl f_kept))), ((am 27), .inl (cA 0, 400, .inl f_keptAt)), ((am 23), .inl (cA 0, 20, .inl f_limits))]) (va_A [((am 0), .inr (9, F9 am v_status v_now v_told v_merges v_taped v_size v_from v_to v_fault v_readFault v_traits v_length v_open v_leaks v_places v_models)), ((am 33), .inl (cA 0, 10, .inl f_uses)), ((am 12), .inl (cA 0, 20, .inl f_size0)), ((am 13), .inl (cA 0, 5000, .inl f_step)), ((am 14), .inl (cA 0, 5000, .inl f_stepA)), ((am 25), .inl (cA 2, 400, .inl f_hasKept)), ((am 26), .inl (cA 1, 400, .inr (.inl f_kept))), ((am 27), .inl (cA 0, 400, .inl f_keptAt)), ((am 23), .inl (cA 0, 20, .inl f_limits))] sz)) 0 0 (va_A [((am 0), .inr (9, F9 am v_status v_now v_told v_merges v_taped v_size v_from v_to v_fault v_readFault v_traits v_length v_open v_leaks v_places v_models)), ((am 33), .inl (cA 0, 10, .inl f_uses)), ((am 12), .inl (cA 0, 20, .inl f_size0)), ((am 13), .inl (cA 0, 5000, .inl f_step)), ((am 14), .inl (cA 0, 5000, .inl f_stepA)), ((am 25), .inl (cA 2, 400, .inl f_hasKept)), ((am 26), .inl (cA 1, 400, .inr (.inl f_kept))), ((am 27), .inl (cA 0, 400, .inl f_keptAt)), ((am 23), .inl (cA 0, 20, .inl f_limits))] sz) := by
  sorry
set_option maxHeartbeats 8000000 in
set_option maxRecDepth 100000 in
theorem k_X9_fault (l : Launch) (dC : Nat → ClassId) (dI : Nat → Nat → Nat) (cA : Nat → ClassId) (sz : Nat) (am : Nat → Nat) (v_status : Int32) (v_now : Int32) (v_told : Int32) (v_merges : Int32) (v_taped : Int32) (v_size : Int32) (v_from : Int32) (v_to : Int32) (v_fault : Int32) (v_readFault : Int32) (v_traits : Int32) (v_length : Int32) (v_open : Int32) (v_leaks : Int32) (v_places : Int32) (v_models : Int32) (i_v_now : 0 ≤ v_now.toInt ∧ v_now.toInt ≤ 100000) (i_v_told : 0 ≤ v_told.toInt ∧ v_told.toInt ≤ 400) (i_v_taped : 0 ≤ v_taped.toInt ∧ v_taped.toInt ≤ 200) (i_v_size : 0 ≤ v_size.toInt ∧ v_size.toInt ≤ 200) (i_v_from : 0 ≤ v_from.toInt ∧ v_from.toInt ≤ 200) (i_v_to : 0 ≤ v_to.toInt ∧ v_to.toInt ≤ 200) (i_v_traits : 0 ≤ v_traits.toInt ∧ v_traits.toInt ≤ 20) (i_v_length : 0 ≤ v_length.toInt ∧ v_length.toInt ≤ 200) (i_v_open : 0 ≤ v_open.toInt ∧ v_open.toInt ≤ 8) (i_v_places : 0 ≤ v_places.toInt ∧ v_places.toInt ≤ 2000) (i_v_models : 0 ≤ v_models.toInt ∧ v_models.toInt ≤ 10)  : Met l yX9_fault wsX9_fault ({ frames := 0, cells := 0, slots := 0, locals := 0 }) (va_Pc [.ref (am 0)] (fun U => U.heap.size = sz ∧ va_P (dC, dI) vwCl [((am 0), .inr (9, F9 am v_status v_now v_told v_merges v_taped v_size v_from v_to v_fault v_readFault v_traits v_length v_open v_leaks v_places v_models))] U.heap ∧ va_K (dC, dI) vwCl (tyL cA) U ∧ va_D (fun _ => True) [((am 0), .inr (9, F9 am v_status v_now v_told v_merges v_taped v_size v_from v_to v_fault v_readFault v_traits v_length v_open v_leaks v_places v_models))] ∧ nw_ok U)) (va_Qi (fun (r : Int32) (_ : Unit) => (r = v_fault)) (fun (_ : Unit) (t : State) => va_P (dC, dI) vwCl [((am 0), .inr (9, F9 am v_status v_now v_told v_merges v_taped v_size v_from v_to v_fault v_readFault v_traits v_length v_open v_leaks v_places v_models))] t.heap ∧ va_D (va_A [((am 0), .inr (9, F9 am v_status v_now v_told v_merges v_taped v_size v_from v_to v_fault v_readFault v_traits v_length v_open v_leaks v_places v_models))] sz) [((am 0), .inr (9, F9 am v_status v_now v_told v_merges v_taped v_size v_from v_to v_fault v_readFault v_traits v_length v_open v_leaks v_places v_models))]) (va_A [((am 0), .inr (9, F9 am v_status v_now v_told v_merges v_taped v_size v_from v_to v_fault v_readFault v_traits v_length v_open v_leaks v_places v_models))] sz)) 0 0 (va_A [((am 0), .inr (9, F9 am v_status v_now v_told v_merges v_taped v_size v_from v_to v_fault v_readFault v_traits v_length v_open v_leaks v_places v_models))] sz) := by
  sorry
set_option maxHeartbeats 8000000 in
set_option maxRecDepth 100000 in
theorem k_X9_status (l : Launch) (dC : Nat → ClassId) (dI : Nat → Nat → Nat) (cA : Nat → ClassId) (sz : Nat) (am : Nat → Nat) (v_status : Int32) (v_now : Int32) (v_told : Int32) (v_merges : Int32) (v_taped : Int32) (v_size : Int32) (v_from : Int32) (v_to : Int32) (v_fault : Int32) (v_readFault : Int32) (v_traits : Int32) (v_length : Int32) (v_open : Int32) (v_leaks : Int32) (v_places : Int32) (v_models : Int32) (i_v_now : 0 ≤ v_now.toInt ∧ v_now.toInt ≤ 100000) (i_v_told : 0 ≤ v_told.toInt ∧ v_told.toInt ≤ 400) (i_v_taped : 0 ≤ v_taped.toInt ∧ v_taped.toInt ≤ 200) (i_v_size : 0 ≤ v_size.toInt ∧ v_size.toInt ≤ 200) (i_v_from : 0 ≤ v_from.toInt ∧ v_from.toInt ≤ 200) (i_v_to : 0 ≤ v_to.toInt ∧ v_to.toInt ≤ 200) (i_v_traits : 0 ≤ v_traits.toInt ∧ v_traits.toInt ≤ 20) (i_v_length : 0 ≤ v_length.toInt ∧ v_length.toInt ≤ 200) (i_v_open : 0 ≤ v_open.toInt ∧ v_open.toInt ≤ 8) (i_v_places : 0 ≤ v_places.toInt ∧ v_places.toInt ≤ 2000) (i_v_models : 0 ≤ v_models.toInt ∧ v_models.toInt ≤ 10)  : Met l yX9_status wsX9_status ({ frames := 0, cells := 0, slots := 0, locals := 0 }) (va_Pc [.ref (am 0)] (fun U => U.heap.size = sz ∧ va_P (dC, dI) vwCl [((am 0), .inr (9, F9 am v_status v_now v_told v_merges v_taped v_size v_from v_to v_fault v_readFault v_traits v_length v_open v_leaks v_places v_models))] U.heap ∧ va_K (dC, dI) vwCl (tyL cA) U ∧ va_D (fun _ => True) [((am 0), .inr (9, F9 am v_status v_now v_told v_merges v_taped v_size v_from v_to v_fault v_readFault v_traits v_length v_open v_leaks v_places v_models))] ∧ nw_ok U)) (va_Qi (fun (r : Int32) (_ : Unit) => (r = v_status)) (fun (_ : Unit) (t : State) => va_P (dC, dI) vwCl [((am 0), .inr (9, F9 am v_status v_now v_told v_merges v_taped v_size v_from v_to v_fault v_readFault v_traits v_length v_open v_leaks v_places v_models))] t.heap ∧ va_D (va_A [((am 0), .inr (9, F9 am v_status v_now v_told v_merges v_taped v_size v_from v_to v_fault v_readFault v_traits v_length v_open v_leaks v_places v_models))] sz) [((am 0), .inr (9, F9 am v_status v_now v_told v_merges v_taped v_size v_from v_to v_fault v_readFault v_traits v_length v_open v_leaks v_places v_models))]) (va_A [((am 0), .inr (9, F9 am v_status v_now v_told v_merges v_taped v_size v_from v_to v_fault v_readFault v_traits v_length v_open v_leaks v_places v_models))] sz)) 0 0 (va_A [((am 0), .inr (9, F9 am v_status v_now v_told v_merges v_taped v_size v_from v_to v_fault v_readFault v_traits v_length v_open v_leaks v_places v_models))] sz) := by
  sorry
