
theorem fill_room {i q L : Int} (h : i ≤ q) (hL : 0 ≤ L) : i * L + L ≤ (q + 1) * L := by
  have := Int.mul_le_mul_of_nonneg_right (show i + 1 ≤ q + 1 by omega) hL
  rw [Int.add_mul, Int.one_mul] at this
  exact this
theorem fill_next (i L : Int) : (i + 1) * L = i * L + L := by rw [Int.add_mul, Int.one_mul]
theorem liv_mono (f : Nat → Int32) {a b : Nat} (h : a ≤ b) : liv f a ≤ liv f b := by
  induction b with
  | zero => rw [show a = 0 by omega]; exact Nat.le_refl _
  | succ b ih =>
    rcases Nat.lt_or_ge a (b + 1) with q | q
    · exact Nat.le_trans (ih (by omega)) (Nat.le_add_right _ _)
    · rw [show a = b + 1 by omega]; exact Nat.le_refl _
theorem liv_in {f : Nat → Int32} {i x : Int32} (h0 : 0 ≤ i.toInt) (h1 : i.toInt < 20) (e : x = f i.toNatClampNeg) (hx : x.toInt = 0) : (liv f i.toInt.toNat : Int) + 1 ≤ liv f 20 := by
  have e2 : i.toNatClampNeg = i.toInt.toNat := rfl
  rw [e2] at e
  have h3 : liv f (i.toInt.toNat + 1) = liv f i.toInt.toNat + 1 := by
    show liv f i.toInt.toNat + _ = _
    rw [← e, if_pos hx]
  have := liv_mono f (show i.toInt.toNat + 1 ≤ 20 by omega)
  omega
theorem liv_up {f : Nat → Int32} {i j x : Int32} {P p2 : Int} (h : P = liv f i.toInt.toNat) (h0 : 0 ≤ i.toInt) (e : x = f i.toNatClampNeg) (hj : j.toInt = i.toInt + 1) (hx : (x.toInt = 0 ∧ p2 = P + 1) ∨ (¬ x.toInt = 0 ∧ p2 = P)) : p2 = liv f j.toInt.toNat := by
  have e1 : j.toInt.toNat = i.toInt.toNat + 1 := by omega
  have e2 : i.toNatClampNeg = i.toInt.toNat := rfl
  rw [e2] at e
  rw [e1]
  show p2 = ((liv f i.toInt.toNat + (if (f i.toInt.toNat).toInt = 0 then 1 else 0) : Nat) : Int)
  rw [← e]
  rcases hx with ⟨h1, h2⟩ | ⟨h1, h2⟩
  · rw [if_pos h1, h2, h]; rfl
  · rw [if_neg h1, h2, h]; rfl
