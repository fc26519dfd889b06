
theorem xk_step {fT fK : Nat → Int32} {k : Int} {p0 : Nat} {p y z i j : Int32} (h : p.toInt = ((itk fT fK k i.toInt.toNat p0 : Nat) : Int)) (h0 : 0 ≤ i.toInt) (hp0 : 0 ≤ p.toInt) (hj : j.toInt = i.toInt + 1) (hx : ¬ (fT p.toNatClampNeg).toInt = (-1)) (ey : y = fK p.toNatClampNeg) (hy : y.toInt ≤ k) (ez : z = fT p.toNatClampNeg) (h1 : (-1) ≤ z.toInt) : z.toInt = ((itk fT fK k j.toInt.toNat p0 : Nat) : Int) := by
  have e1 : j.toInt.toNat = i.toInt.toNat + 1 := by omega
  have hp : p.toNatClampNeg = itk fT fK k i.toInt.toNat p0 := by
    have : p.toNatClampNeg = p.toInt.toNat := rfl
    omega
  rw [hp] at hx ey ez
  rw [e1]
  show z.toInt = ((nxk fT fK k (itk fT fK k i.toInt.toNat p0) : Nat) : Int)
  unfold nxk
  rw [← ez] at hx ⊢
  rw [← ey, if_neg (by omega)]
  omega
theorem xk_done {fT fK : Nat → Int32} {k : Int} {p0 : Nat} {p i : Int32} (h : p.toInt = ((itk fT fK k i.toInt.toNat p0 : Nat) : Int)) (hi : 0 ≤ i.toInt ∧ i.toInt ≤ 20) (hx : i.toInt = 20 ∨ (fT p.toNatClampNeg).toInt = (-1) ∨ k < (fK p.toNatClampNeg).toInt) : p.toInt = ((itk fT fK k 20 p0 : Nat) : Int) := by
  have hp : p.toNatClampNeg = itk fT fK k i.toInt.toNat p0 := by
    have : p.toNatClampNeg = p.toInt.toNat := rfl
    omega
  rcases hx with hx | hx
  · rw [h, hx]; rfl
  · rw [hp] at hx
    have hs : nxk fT fK k (itk fT fK k i.toInt.toNat p0) = itk fT fK k i.toInt.toNat p0 := by
      unfold nxk
      exact if_pos hx
    have e := itk_stop hs (20 - i.toInt.toNat)
    rw [show i.toInt.toNat + (20 - i.toInt.toNat) = 20 by omega] at e
    rw [e]; exact h
