
theorem fb_holes : ∀ (m n : Nat) (f : Nat → Nat), (∀ i, i < n → f i < m) → (∀ i j, i < j → j < n → f i ≠ f j) → n ≤ m := by
  intro m
  induction m with
  | zero =>
    intro n f h1 _
    rcases Nat.eq_zero_or_pos n with h | h
    · omega
    · exact absurd (h1 0 h) (Nat.not_lt_zero _)
  | succ m ih =>
    intro n f h1 h2
    by_cases hx : ∃ i, i < n ∧ f i = m
    · obtain ⟨a, ha, hfa⟩ := hx
      have hg := ih (n - 1) (fun i => if i < a then f i else f (i + 1)) (by
        intro i hi
        by_cases q : i < a
        · simp only [if_pos q]
          have b1 := h1 i (by omega)
          have b2 := h2 i a q ha
          omega
        · simp only [if_neg q]
          have b1 := h1 (i + 1) (by omega)
          have b2 := h2 a (i + 1) (by omega) (by omega)
          omega) (by
        intro i j hij hj
        by_cases q : i < a
        · by_cases r : j < a
          · simp only [if_pos q, if_pos r]
            exact h2 i j hij (by omega)
          · simp only [if_pos q, if_neg r]
            exact h2 i (j + 1) (by omega) (by omega)
        · have r : ¬ j < a := by omega
          simp only [if_neg q, if_neg r]
          exact h2 (i + 1) (j + 1) (by omega) (by omega))
      omega
    · have hg := ih n f (fun i hi => by
        have b1 := h1 i hi
        have b2 : f i ≠ m := fun e => hx ⟨i, hi, e⟩
        omega) h2
      omega
/-! who leads to whom -/
/-- one step over the merges that are known at k -/
def nxk (fT fK : Nat → Int32) (k : Int) (p : Nat) : Nat := if (fT p).toInt = -1 ∨ k < (fK p).toInt then p else (fT p).toInt.toNat
def itk (fT fK : Nat → Int32) (k : Int) : Nat → Nat → Nat
  | 0, p => p
  | n + 1, p => nxk fT fK k (itk fT fK k n p)
def Acyc (fT : Nat → Int32) : Prop := ∃ rk : Nat → Nat, ∀ p, p < 20 → ¬ (fT p).toInt = -1 → rk (fT p).toInt.toNat < rk p
theorem itk_stop {fT fK : Nat → Int32} {k : Int} {n p : Nat} (h : nxk fT fK k (itk fT fK k n p) = itk fT fK k n p) : ∀ j, itk fT fK k (n + j) p = itk fT fK k n p := by
  intro j
  induction j with
  | zero => rfl
  | succ j ih =>
    show nxk fT fK k (itk fT fK k (n + j) p) = _
    rw [ih, h]
theorem nxk_lt {fT fK : Nat → Int32} {k : Int} {p : Nat} (h : inB (-1) 19 20 fT) (hp : p < 20) : nxk fT fK k p < 20 := by
  unfold nxk
  have := h p hp
  split
  · exact hp
  · next q => omega
theorem itk_lt {fT fK : Nat → Int32} {k : Int} {p : Nat} (h : inB (-1) 19 20 fT) (hp : p < 20) : ∀ n, itk fT fK k n p < 20 := by
  intro n
  induction n with
  | zero => exact hp
  | succ n ih => exact nxk_lt h ih
theorem nxk_rank {fT fK : Nat → Int32} {k : Int} {p : Nat} {rk : Nat → Nat} (hr : ∀ p, p < 20 → ¬ (fT p).toInt = -1 → rk (fT p).toInt.toNat < rk p) (hp : p < 20) (hn : nxk fT fK k p ≠ p) : rk (nxk fT fK k p) < rk p := by
  unfold nxk at hn ⊢
  split
  · next q => rw [if_pos q] at hn; exact absurd rfl hn
  · next q => exact hr p hp (fun z => q (Or.inl z))
theorem itk_20 {fT fK : Nat → Int32} {k : Int} {p : Nat} (h : inB (-1) 19 20 fT) (ha : Acyc fT) (hp : p < 20) : nxk fT fK k (itk fT fK k 20 p) = itk fT fK k 20 p := by
  obtain ⟨rk, hr⟩ := ha
  by_cases hc : nxk fT fK k (itk fT fK k 20 p) = itk fT fK k 20 p
  · exact hc
  exfalso
  have hno : ∀ i, i ≤ 20 → nxk fT fK k (itk fT fK k i p) ≠ itk fT fK k i p := by
    intro i hi q
    apply hc
    have e := itk_stop q (20 - i)
    rw [show i + (20 - i) = 20 by omega] at e
    rw [e, q]
  have hd : ∀ i j, i < j → j ≤ 21 → rk (itk fT fK k j p) < rk (itk fT fK k i p) := by
    intro i j hij
    induction j with
    | zero => omega
    | succ j ih =>
      intro hj
      have h1 : rk (itk fT fK k (j + 1) p) < rk (itk fT fK k j p) := nxk_rank hr (itk_lt h hp j) (hno j (by omega))
      rcases Nat.lt_or_ge i j with q | q
      · exact Nat.lt_trans h1 (ih q (by omega))
      · rw [show i = j by omega]; exact h1
  have := fb_holes 20 21 (fun i => itk fT fK k i p) (fun i _ => itk_lt h hp i) (fun i j hij hj e => by
    have h1 := hd i j hij (by omega)
    have e' : itk fT fK k i p = itk fT fK k j p := e
    rw [e'] at h1
    exact Nat.lt_irrefl _ h1)
  omega
theorem itk_end {fT fK : Nat → Int32} {k : Int} {p n : Nat} (h : inB (-1) 19 20 fT) (ha : Acyc fT) (hp : p < 20) (hn : nxk fT fK k (itk fT fK k n p) = itk fT fK k n p) : itk fT fK k n p = itk fT fK k 20 p := by
  rcases Nat.le_total n 20 with q | q
  · have e := itk_stop hn (20 - n)
    rw [show n + (20 - n) = 20 by omega] at e
    exact e.symm
  · have e := itk_stop (itk_20 (fK := fK) (k := k) h ha hp) (n - 20)
    rw [show 20 + (n - 20) = n by omega] at e
    exact e
/-- the loop of the reference: a step -/
theorem ik_step {fT fK : Nat → Int32} {k : Int} {p0 : Nat} {p x y z : Int32} (h : ∃ n : Nat, p.toInt = ((itk fT fK k n p0 : Nat) : Int)) (ex : x = fT p.toNatClampNeg) (hx : ¬ x.toInt = (-1)) (ey : y = fK p.toNatClampNeg) (hy : y.toInt ≤ k) (ez : z = fT p.toNatClampNeg) (h0 : (-1) ≤ z.toInt) : ∃ n : Nat, z.toInt = ((itk fT fK k n p0 : Nat) : Int) := by
  obtain ⟨n, hn⟩ := h
  refine ⟨n + 1, ?_⟩
  have hp : p.toNatClampNeg = itk fT fK k n p0 := by
    have : p.toNatClampNeg = p.toInt.toNat := rfl
    omega
  rw [hp] at ex ey ez
  show z.toInt = ((nxk fT fK k (itk fT fK k n p0) : Nat) : Int)
  unfold nxk
  rw [← ez, ← ey, ez.trans ex.symm, if_neg (by omega)]
  rw [ez.trans ex.symm] at h0
  omega
theorem ik_rank {fT : Nat → Int32} {rk : Nat → Nat} {p x : Int32} (hr : ∀ p, p < 20 → ¬ (fT p).toInt = -1 → rk (fT p).toInt.toNat < rk p) (h0 : 0 ≤ p.toInt) (h1 : p.toInt ≤ 19) (ex : x = fT p.toNatClampNeg) (hx : ¬ x.toInt = (-1)) : (rk x.toInt.toNat : Int) < rk p.toInt.toNat := by
  have hp : p.toNatClampNeg = p.toInt.toNat := rfl
  rw [hp] at ex
  have := hr p.toInt.toNat (by omega) (by rw [← ex]; exact hx)
  rw [← ex] at this
  omega
theorem ik_done {fT fK : Nat → Int32} {k : Int} {p0 : Nat} {p x : Int32} (hB : inB (-1) 19 20 fT) (ha : Acyc fT) (hp0 : p0 < 20) (h : ∃ n : Nat, p.toInt = ((itk fT fK k n p0 : Nat) : Int)) (hx : (x = fT p.toNatClampNeg ∧ x.toInt = (-1)) ∨ (x = fK p.toNatClampNeg ∧ k < x.toInt)) : p.toInt = ((itk fT fK k 20 p0 : Nat) : Int) := by
  obtain ⟨n, hn⟩ := h
  have hp : p.toNatClampNeg = itk fT fK k n p0 := by
    have : p.toNatClampNeg = p.toInt.toNat := rfl
    omega
  rw [hn, itk_end hB ha hp0]
  rw [hp] at hx
  unfold nxk
  apply if_pos
  rcases hx with ⟨e, q⟩ | ⟨e, q⟩
  · left; rw [← e]; exact q
  · right; rw [← e]; exact q
/-- a merge of a with b keeps it free of rounds -/
theorem acyc_add {fT fK gT : Nat → Int32} {k : Int} {a b : Int32} (hB : inB (-1) 19 20 fT) (hK : inB 0 100000 20 fK) (ha : Acyc fT) (h0 : 0 ≤ a.toInt) (h1 : a.toInt ≤ 19) (h2 : 0 ≤ b.toInt) (h3 : b.toInt ≤ 19) (hk : k = 100000) {x : Int32} (ex : x = fT a.toNatClampNeg) (hx : x.toInt = (-1)) (hl : ¬ ((itk fT fK k 20 b.toInt.toNat : Nat) : Int) = a.toInt) (eg : gT = upd fT a.toNatClampNeg b) : Acyc gT := by
  have hac := ha
  obtain ⟨rk, hr⟩ := ha
  have hA : a.toNatClampNeg = a.toInt.toNat := rfl
  rw [hA] at ex eg
  generalize hAn : a.toInt.toNat = A at ex eg
  generalize hBn : b.toInt.toNat = Bn at hl
  have hA20 : A < 20 := by omega
  have hB20 : Bn < 20 := by omega
  let en : Nat → Nat := fun p => itk fT fK k 20 p
  -- a bound of all ranks
  have hbd : ∃ M, ∀ p, p < 20 → rk p < M := by
    refine ⟨rk 0 + rk 1 + rk 2 + rk 3 + rk 4 + rk 5 + rk 6 + rk 7 + rk 8 + rk 9 + rk 10 + rk 11 + rk 12 + rk 13 + rk 14 + rk 15 + rk 16 + rk 17 + rk 18 + rk 19 + 1, fun p hp => ?_⟩
    rcases (show p = 0 ∨ p = 1 ∨ p = 2 ∨ p = 3 ∨ p = 4 ∨ p = 5 ∨ p = 6 ∨ p = 7 ∨ p = 8 ∨ p = 9 ∨ p = 10 ∨ p = 11 ∨ p = 12 ∨ p = 13 ∨ p = 14 ∨ p = 15 ∨ p = 16 ∨ p = 17 ∨ p = 18 ∨ p = 19 by omega) with h | h | h | h | h | h | h | h | h | h | h | h | h | h | h | h | h | h | h | h <;> subst h <;> omega
  obtain ⟨M, hM⟩ := hbd
  have hAe : itk fT fK k 20 A = A := by
    have q : nxk fT fK k (itk fT fK k 0 A) = itk fT fK k 0 A := by
      show nxk fT fK k A = A
      unfold nxk
      rw [if_pos (Or.inl (by rw [← ex]; exact hx))]
    have e := itk_stop q 20
    rw [Nat.zero_add] at e
    exact e
  have hshift : ∀ n p, itk fT fK k n (nxk fT fK k p) = itk fT fK k (n + 1) p := by
    intro n
    induction n with
    | zero => intro p; rfl
    | succ n ih =>
      intro p
      show nxk fT fK k (itk fT fK k n (nxk fT fK k p)) = nxk fT fK k (itk fT fK k (n + 1) p)
      rw [ih]
  refine ⟨fun p => if itk fT fK k 20 p = A then rk p + M else rk p, fun p hp hn => ?_⟩
  rw [eg] at hn ⊢
  by_cases hpa : p = A
  · subst hpa
    rw [pk_us]
    have e1 : b.toInt.toNat = Bn := hBn
    simp only [e1, hAe, if_true]
    rw [if_neg (by omega)]
    have := hM Bn hB20
    omega
  · rw [pk_un hpa] at hn ⊢
    have h5 := hr p hp hn
    have hnx : nxk fT fK k p = (fT p).toInt.toNat := by
      unfold nxk
      rw [if_neg]
      intro q
      rcases q with q | q
      · exact hn q
      · have := hK p hp
        omega
    have he : itk fT fK k 20 ((fT p).toInt.toNat) = itk fT fK k 20 p := by
      rw [← hnx, hshift 20 p]
      show nxk fT fK k (itk fT fK k 20 p) = _
      exact itk_20 hB hac hp
    simp only [he]
    split
    · omega
    · exact h5
