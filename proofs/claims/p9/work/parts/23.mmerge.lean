
def mgRes (fT fK : Nat → Int32) (n a b kn r n' : Int32) (fT' fK' : Nat → Int32) : Prop :=
  (¬ (0 ≤ kn.toInt ∧ kn.toInt ≤ 100000) ∧ r.toInt = (-1) ∧ n' = n ∧ fT' = fT ∧ fK' = fK) ∨
  ((0 ≤ kn.toInt ∧ kn.toInt ≤ 100000) ∧ ¬ (0 ≤ a.toInt ∧ a.toInt ≤ 19 ∧ 0 ≤ b.toInt ∧ b.toInt ≤ 19) ∧ r.toInt = (-2) ∧ n' = n ∧ fT' = fT ∧ fK' = fK) ∨
  ((0 ≤ kn.toInt ∧ kn.toInt ≤ 100000) ∧ (0 ≤ a.toInt ∧ a.toInt ≤ 19 ∧ 0 ≤ b.toInt ∧ b.toInt ≤ 19) ∧ (¬ (fT a.toNatClampNeg).toInt = (-1) ∨ ((itk fT fK 100000 20 b.toInt.toNat : Nat) : Int) = a.toInt) ∧ r.toInt = (-4) ∧ n' = n ∧ fT' = fT ∧ fK' = fK) ∨
  ((0 ≤ kn.toInt ∧ kn.toInt ≤ 100000) ∧ (0 ≤ a.toInt ∧ a.toInt ≤ 19 ∧ 0 ≤ b.toInt ∧ b.toInt ≤ 19) ∧ (fT a.toNatClampNeg).toInt = (-1) ∧ (¬ ((itk fT fK 100000 20 b.toInt.toNat : Nat) : Int) = a.toInt) ∧ r = n + 1 ∧ n' = n + 1 ∧ fT' = upd fT a.toNatClampNeg b ∧ fK' = upd fK a.toNatClampNeg kn)
def ldRes (fT fK : Nat → Int32) (a kn r : Int32) : Prop := (0 ≤ a.toInt ∧ a.toInt ≤ 19 ∧ 0 ≤ kn.toInt ∧ kn.toInt ≤ 100000 → r.toInt = ((itk fT fK kn.toInt 20 a.toInt.toNat : Nat) : Int)) ∧ (¬ (0 ≤ a.toInt ∧ a.toInt ≤ 19 ∧ 0 ≤ kn.toInt ∧ kn.toInt ≤ 100000) → r.toInt = (-1))
