
/-- how a step moves the height of the pile -/
def dlt (c : Int32) : Int := if 1 ≤ c.toInt ∧ c.toInt ≤ 4 then -1 else if c.toInt = 5 then 0 else 1
def dep (f : Nat → Int32) (b : Nat) : Nat → Int
  | 0 => 0
  | j + 1 => dep f b j + dlt (f (b + j))
def wfp (f fA : Nat → Int32) (b n : Nat) : Prop := ∀ j, j < n → ((1 ≤ (f (b + j)).toInt ∧ (f (b + j)).toInt ≤ 4 → 2 ≤ dep f b j) ∧ ((f (b + j)).toInt = 5 → 1 ≤ dep f b j) ∧ ((f (b + j)).toInt = 6 → 0 ≤ (fA (b + j)).toInt ∧ (fA (b + j)).toInt ≤ 19))
def progOK (f fA f0 : Nat → Int32) (n : Int32) : Prop := ∀ i : Nat, (i : Int) < n.toInt → wfp f fA (250 * i) (f0 i).toInt.toNat
theorem dep_le (f : Nat → Int32) (b : Nat) : ∀ j : Nat, dep f b j ≤ j := by
  intro j
  induction j with
  | zero => exact Int.le_refl 0
  | succ j ih =>
    show dep f b j + dlt (f (b + j)) ≤ _
    have : dlt (f (b + j)) ≤ 1 := by
      unfold dlt
      split
      · omega
      · split <;> omega
    omega
theorem wf_at {f fA f0 : Nat → Int32} {i j at_ c x n : Int32} {N : Nat} (h : wfp f fA (250 * i.toInt.toNat) N) (hN : N = (f0 i.toInt.toNat).toInt.toNat) (h0 : 0 ≤ i.toInt) (hj : 0 ≤ j.toInt) (ex : x = f0 i.toNatClampNeg) (hx : j.toInt < x.toInt) (ha : at_.toInt = 250 * i.toInt + j.toInt) (ec : c = f at_.toNatClampNeg) (hn : n.toInt = dep f (250 * i.toInt.toNat) j.toInt.toNat) : (1 ≤ c.toInt ∧ c.toInt ≤ 4 → 2 ≤ n.toInt) ∧ (c.toInt = 5 → 1 ≤ n.toInt) ∧ (c.toInt = 6 → 0 ≤ (fA at_.toNatClampNeg).toInt ∧ (fA at_.toNatClampNeg).toInt ≤ 19) ∧ n.toInt ≤ j.toInt ∧ (1 ≤ c.toInt ∧ c.toInt ≤ 4 → dep f (250 * i.toInt.toNat) (j.toInt.toNat + 1) = n.toInt - 1) ∧ (c.toInt = 5 → dep f (250 * i.toInt.toNat) (j.toInt.toNat + 1) = n.toInt) ∧ (¬ (1 ≤ c.toInt ∧ c.toInt ≤ 4) → ¬ c.toInt = 5 → dep f (250 * i.toInt.toNat) (j.toInt.toNat + 1) = n.toInt + 1) := by
  have e1 : at_.toNatClampNeg = 250 * i.toInt.toNat + j.toInt.toNat := by
    have : at_.toNatClampNeg = at_.toInt.toNat := rfl
    omega
  have e2 : i.toNatClampNeg = i.toInt.toNat := rfl
  rw [e2] at ex
  rw [e1] at ec ⊢
  obtain ⟨w1, w2, w3⟩ := h j.toInt.toNat (by rw [hN, ← ex]; omega)
  rw [← ec, ← hn] at w1 w2
  rw [← ec] at w3
  have e3 : dep f (250 * i.toInt.toNat) (j.toInt.toNat + 1) = n.toInt + dlt c := by
    show dep f _ j.toInt.toNat + dlt (f (250 * i.toInt.toNat + j.toInt.toNat)) = _
    rw [← ec, ← hn]
  have e4 := dep_le f (250 * i.toInt.toNat) j.toInt.toNat
  rw [← hn] at e4
  refine ⟨w1, w2, w3, by omega, fun q => ?_, fun q => ?_, fun q1 q2 => ?_⟩
  · rw [e3, dlt, if_pos q]; omega
  · rw [e3, dlt, if_neg (by omega), if_pos q]; omega
  · rw [e3, dlt, if_neg q1, if_neg q2]
theorem dep_nn {f fA : Nat → Int32} {b N : Nat} (h : wfp f fA b N) : ∀ j : Nat, j ≤ N → 0 ≤ dep f b j := by
  intro j
  induction j with
  | zero => intro _; exact Int.le_refl 0
  | succ j ih =>
    intro hj
    have h1 := ih (by omega)
    obtain ⟨w1, w2, w3⟩ := h j (by omega)
    show 0 ≤ dep f b j + dlt (f (b + j))
    unfold dlt
    split
    · next q => have := w1 q; omega
    · split <;> omega
