/-! the pure reader: what both readers do with a text -/
def nrm (x : Int) : Int := if 0 ≤ x ∧ x ≤ 127 then x else 200
def tpe (f : Nat → Int32) (z : Int32) : Int → Int := fun k => if 0 ≤ k ∧ k < z.toInt then nrm (f k.toNat).toInt else 0
theorem tp_in {f : Nat → Int32} {z k : Int32} (h0 : 0 ≤ k.toInt) (h1 : k.toInt < z.toInt) : tpe f z k.toInt = nrm (f k.toNatClampNeg).toInt := by
  show (if 0 ≤ k.toInt ∧ k.toInt < z.toInt then nrm (f k.toInt.toNat).toInt else 0) = _
  rw [if_pos ⟨h0, h1⟩]
  rfl
theorem tp_out {f : Nat → Int32} {z : Int32} {k : Int} (h : ¬ (0 ≤ k ∧ k < z.toInt)) : tpe f z k = 0 := if_neg h
theorem nrm_eq {x c : Int} (h0 : 0 ≤ c) (h1 : c ≤ 127) : nrm x = c ↔ x = c := by
  unfold nrm
  split <;> omega
theorem nrm_rng {x lo hi : Int} (h0 : 0 ≤ lo) (h1 : hi ≤ 127) : (lo ≤ nrm x ∧ nrm x ≤ hi) ↔ (lo ≤ x ∧ x ≤ hi) := by
  unfold nrm
  split <;> omega
/-- a byte of the text within bounds -/
theorem tp_rng {f : Nat → Int32} {z k : Int32} {lo hi : Int} (h0 : 0 ≤ k.toInt) (hl : 1 ≤ lo) (hh : hi ≤ 127) : (lo ≤ tpe f z k.toInt ∧ tpe f z k.toInt ≤ hi) ↔ (k.toInt < z.toInt ∧ lo ≤ (f k.toNatClampNeg).toInt ∧ (f k.toNatClampNeg).toInt ≤ hi) := by
  by_cases q : k.toInt < z.toInt
  · rw [tp_in h0 q, nrm_rng (by omega) hh]
    exact ⟨fun h => ⟨q, h⟩, fun h => h.2⟩
  · rw [tp_out (by omega)]
    constructor
    · intro h; omega
    · intro h; exact absurd h.1 q
theorem tp_eq {f : Nat → Int32} {z k : Int32} {c : Int} (h0 : 0 ≤ k.toInt) (hl : 1 ≤ c) (hh : c ≤ 127) : tpe f z k.toInt = c ↔ (k.toInt < z.toInt ∧ (f k.toNatClampNeg).toInt = c) := by
  by_cases q : k.toInt < z.toInt
  · rw [tp_in h0 q, nrm_eq (by omega) hh]
    exact ⟨fun h => ⟨q, h⟩, fun h => h.2⟩
  · rw [tp_out (by omega)]
    constructor
    · intro h; omega
    · intro h; exact absurd h.1 q
theorem tp_ix {f : Nat → Int32} {z : Int32} {a : Int} {k : Int32} (e : k.toInt = a) (h0 : 0 ≤ a) (h1 : a < z.toInt) : tpe f z a = nrm (f k.toNatClampNeg).toInt := by
  subst e
  exact tp_in h0 h1
def skp (g : Int → Int) : Nat → Int → Int
  | 0, k => k
  | n + 1, k => if g k = 32 then skp g n (k + 1) else k
def sk (g : Int → Int) (k : Int) : Int := skp g (200 - k).toNat k
theorem sk_step {g : Int → Int} {k : Int} (h : g k = 32) (hk : k < 200) : sk g k = sk g (k + 1) := by
  unfold sk
  rw [show (200 - k).toNat = (200 - (k + 1)).toNat + 1 by omega]
  show (if g k = 32 then skp g (200 - (k + 1)).toNat (k + 1) else k) = _
  rw [if_pos h]
theorem sk_done {g : Int → Int} {k : Int} (h : ¬ g k = 32) : sk g k = k := by
  unfold sk
  cases (200 - k).toNat with
  | zero => rfl
  | succ n =>
    show (if g k = 32 then skp g n (k + 1) else k) = k
    rw [if_neg h]
def rnl (g : Int → Int) (lo hi : Int) : Nat → Int → Int
  | 0, k => k
  | n + 1, k => if lo ≤ g k ∧ g k ≤ hi then rnl g lo hi n (k + 1) else k
def rl (g : Int → Int) (lo hi k : Int) : Int := rnl g lo hi (200 - k).toNat k
theorem rl_step {g : Int → Int} {lo hi k : Int} (h : lo ≤ g k ∧ g k ≤ hi) (hk : k < 200) : rl g lo hi k = rl g lo hi (k + 1) := by
  unfold rl
  rw [show (200 - k).toNat = (200 - (k + 1)).toNat + 1 by omega]
  show (if lo ≤ g k ∧ g k ≤ hi then rnl g lo hi (200 - (k + 1)).toNat (k + 1) else k) = _
  rw [if_pos h]
theorem rl_done {g : Int → Int} {lo hi k : Int} (h : ¬ (lo ≤ g k ∧ g k ≤ hi)) : rl g lo hi k = k := by
  unfold rl
  cases (200 - k).toNat with
  | zero => rfl
  | succ n =>
    show (if lo ≤ g k ∧ g k ≤ hi then rnl g lo hi n (k + 1) else k) = k
    rw [if_neg h]
/-- where the token that begins at p ends -/
def tke (g : Int → Int) (z p : Int) : Int := if p < z then (if 97 ≤ g p ∧ g p ≤ 122 then rl g 97 122 (p + 1) else if 48 ≤ g p ∧ g p ≤ 57 then rl g 48 57 (p + 1) else p + 1) else p
theorem tke_out {g : Int → Int} {z p : Int} (h : ¬ p < z) : tke g z p = p := if_neg h
theorem tke_let {g : Int → Int} {z p : Int} (h : p < z) (h1 : 97 ≤ g p ∧ g p ≤ 122) : tke g z p = rl g 97 122 (p + 1) := by
  unfold tke
  rw [if_pos h, if_pos h1]
theorem tke_dig {g : Int → Int} {z p : Int} (h : p < z) (h1 : 48 ≤ g p ∧ g p ≤ 57) : tke g z p = rl g 48 57 (p + 1) := by
  unfold tke
  rw [if_pos h, if_neg (by omega), if_pos h1]
theorem tke_one {g : Int → Int} {z p : Int} (h : p < z) (h1 : ¬ (97 ≤ g p ∧ g p ≤ 122)) (h2 : ¬ (48 ≤ g p ∧ g p ≤ 57)) : tke g z p = p + 1 := by
  unfold tke
  rw [if_pos h, if_neg h1, if_neg h2]
/-- the token from p to e is the word -/
def tw (g : Int → Int) : List Int → Int → Int → Bool
  | [], p, e => decide (p = e)
  | c :: cs, p, e => decide (g p = c ∧ p < e) && tw g cs (p + 1) e
theorem tw_iff {g : Int → Int} : ∀ {cs : List Int} {p e : Int}, tw g cs p e = true ↔ (e = p + cs.length ∧ ∀ i : Nat, i < cs.length → g (p + i) = cs.getD i 0) := by
  intro cs
  induction cs with
  | nil =>
    intro p e
    show decide (p = e) = true ↔ _
    rw [decide_eq_true_iff]
    simp only [List.length_nil]
    constructor
    · intro h; exact ⟨by omega, fun i hi => absurd hi (Nat.not_lt_zero i)⟩
    · intro h; have := h.1; omega
  | cons c cs ih =>
    intro p e
    show (decide (g p = c ∧ p < e) && tw g cs (p + 1) e) = true ↔ _
    rw [Bool.and_eq_true, decide_eq_true_iff, ih]
    simp only [List.length_cons]
    constructor
    · rintro ⟨⟨h1, h2⟩, h3, h4⟩
      refine ⟨by omega, fun i hi => ?_⟩
      cases i with
      | zero => simpa using h1
      | succ i =>
        have := h4 i (by omega)
        rw [show p + ((i + 1 : Nat) : Int) = p + 1 + (i : Int) by omega, this]
        rfl
    · rintro ⟨h1, h2⟩
      refine ⟨⟨by simpa using h2 0 (by omega), by omega⟩, by omega, fun i hi => ?_⟩
      have := h2 (i + 1) (by omega)
      rw [show p + 1 + (i : Int) = p + ((i + 1 : Nat) : Int) by omega, this]
      rfl
theorem tw_one {g : Int → Int} {c p e : Int} : tw g [c] p e = true ↔ (g p = c ∧ e = p + 1) := by
  show (decide (g p = c ∧ p < e) && decide (p + 1 = e)) = true ↔ _
  rw [Bool.and_eq_true, decide_eq_true_iff, decide_eq_true_iff]
  omega
/-- the number that the digits from p on write -/
def dv (g : Int → Int) (p : Int) : Nat → Int
  | 0 => 0
  | n + 1 => 10 * dv g p n + (g (p + n) - 48)
theorem dv_nn {g : Int → Int} {p : Int} : ∀ {n : Nat}, (∀ k : Nat, k < n → 48 ≤ g (p + k)) → 0 ≤ dv g p n := by
  intro n
  induction n with
  | zero => intro _; exact Int.le_refl 0
  | succ n ih =>
    intro h
    have h1 := ih (fun k hk => h k (by omega))
    have h2 := h n (by omega)
    show 0 ≤ 10 * dv g p n + (g (p + n) - 48)
    omega
theorem dv_mono {g : Int → Int} {p : Int} {n : Nat} : ∀ {m : Nat}, n ≤ m → (∀ k : Nat, k < m → 48 ≤ g (p + k)) → dv g p n ≤ dv g p m := by
  intro m
  induction m with
  | zero => intro h _; rw [show n = 0 by omega]; exact Int.le_refl _
  | succ m ih =>
    intro h hd
    rcases Nat.lt_or_ge n (m + 1) with q | q
    · have h1 := ih (by omega) (fun k hk => hd k (by omega))
      have h2 := hd m (by omega)
      have h3 := dv_nn (g := g) (p := p) (n := m) (fun k hk => hd k (by omega))
      show dv g p n ≤ 10 * dv g p m + (g (p + m) - 48)
      omega
    · rw [show n = m + 1 by omega]; exact Int.le_refl _
abbrev nOK (g : Int → Int) (mx p e : Int) : Prop := (48 ≤ g p ∧ g p ≤ 57) ∧ 0 ≤ dv g p (e - p).toNat ∧ dv g p (e - p).toNat ≤ mx
abbrev RS := Sum Int (Int × Int × Int × Int32)
def bnd (x : RS) (k : Int → Int → Int → Int32 → RS) : RS :=
  match x with
  | .inl f => .inl f
  | .inr (p, e, lk, rd) => k p e lk rd
def rs (fl p e lk rd : Int32) : RS := if fl.toInt = (-1) then .inr (p.toInt, e.toInt, lk.toInt, rd) else .inl fl.toInt
theorem rs_ok {fl p e lk rd : Int32} (h : fl.toInt = (-1)) : rs fl p e lk rd = .inr (p.toInt, e.toInt, lk.toInt, rd) := if_pos h
theorem rs_no {fl p e lk rd : Int32} (h : ¬ fl.toInt = (-1)) : rs fl p e lk rd = .inl fl.toInt := if_neg h
theorem rs_bad {fl p e lk rd p' e' lk' rd' : Int32} (h : ¬ fl.toInt = (-1)) : rs fl p e lk rd = rs fl p' e' lk' rd' := by rw [rs_no h, rs_no h]
theorem bnd_ok {fl p e lk rd : Int32} {x : RS} {k : Int → Int → Int → Int32 → RS} (hx : rs fl p e lk rd = x) (h : fl.toInt = (-1)) : bnd x k = k p.toInt e.toInt lk.toInt rd := by rw [← hx, rs_ok h]; rfl
theorem bnd_no {fl p e lk rd : Int32} {x : RS} {k : Int → Int → Int → Int32 → RS} (hx : rs fl p e lk rd = x) (h : ¬ fl.toInt = (-1)) : bnd x k = .inl fl.toInt := by rw [← hx, rs_no h]; rfl
def pnum (g : Int → Int) (z mx p e : Int) (k : Int → Int → Int → RS) : RS := if nOK g mx p e then k (dv g p (e - p).toNat) (sk g e) (tke g z (sk g e)) else .inl p
def ptak (g : Int → Int) (z : Int) (cs : List Int) (p e : Int) (k : Int → Int → RS) : RS := if tw g cs p e = true then k (sk g e) (tke g z (sk g e)) else .inl p
theorem pnum_ok {g : Int → Int} {z mx p e : Int} {k : Int → Int → Int → RS} (h : nOK g mx p e) : pnum g z mx p e k = k (dv g p (e - p).toNat) (sk g e) (tke g z (sk g e)) := if_pos h
theorem pnum_no {g : Int → Int} {z mx p e : Int} {k : Int → Int → Int → RS} (h : ¬ nOK g mx p e) : pnum g z mx p e k = .inl p := if_neg h
theorem ptak_ok {g : Int → Int} {z : Int} {cs : List Int} {p e : Int} {k : Int → Int → RS} (h : tw g cs p e = true) : ptak g z cs p e k = k (sk g e) (tke g z (sk g e)) := if_pos h
theorem ptak_no {g : Int → Int} {z : Int} {cs : List Int} {p e : Int} {k : Int → Int → RS} (h : ¬ tw g cs p e = true) : ptak g z cs p e k = .inl p := if_neg h
abbrev wTrait : List Int := [116, 114, 97, 105, 116]
abbrev wLast : List Int := [108, 97, 115, 116]
abbrev wAge : List Int := [97, 103, 101]
abbrev wCount : List Int := [99, 111, 117, 110, 116]
abbrev wSum : List Int := [115, 117, 109]
abbrev wLeast : List Int := [108, 101, 97, 115, 116]
abbrev wMost : List Int := [109, 111, 115, 116]
abbrev wElse : List Int := [101, 108, 115, 101]
abbrev wFrom : List Int := [102, 114, 111, 109]
abbrev wTo : List Int := [116, 111]
abbrev wAhead : List Int := [97, 104, 101, 97, 100]
def pwin (g : Int → Int) (z p e lk : Int) (rd : Int32) : RS :=
  pnum g z 5 p e fun _ p e => ptak g z wFrom p e fun p e => pnum g z 1000000 p e fun x p e => ptak g z wTo p e fun p e => pnum g z x p e fun _ p e =>
    if tw g wAhead p e = true then .inr (sk g e, tke g z (sk g e), 1, rd) else .inr (p, e, lk, rd)
def pkind (g : Int → Int) (p e : Int) : Int := if tw g wTrait p e = true then 1 else if tw g wLast p e = true then 2 else if tw g wAge p e = true then 3 else if tw g wCount p e = true then 4 else if tw g wSum p e = true then 5 else if tw g wLeast p e = true then 6 else if tw g wMost p e = true then 7 else (-1)
/-- the bit of a number -/
def bti (v : Int) : Int32 := 1 <<< (Int32.ofInt v &&& 31)
/-- what the steps of a program read -/
def orb (f fA : Nat → Int32) (b : Nat) : Nat → Int32
  | 0 => 0
  | j + 1 => if (f (b + j)).toInt = 6 then orb f fA b j ||| bti (fA (b + j)).toInt else orb f fA b j
theorem orb_cong {f fA g gA : Nat → Int32} {b : Nat} : ∀ {n : Nat}, (∀ k, k < b + n → g k = f k ∧ gA k = fA k) → orb g gA b n = orb f fA b n := by
  intro n
  induction n with
  | zero => intro _; rfl
  | succ n ih =>
    intro h
    show (if (g (b + n)).toInt = 6 then orb g gA b n ||| bti (gA (b + n)).toInt else orb g gA b n) = (if (f (b + n)).toInt = 6 then orb f fA b n ||| bti (fA (b + n)).toInt else orb f fA b n)
    rw [ih (fun k hk => h k (by omega)), (h (b + n) (by omega)).1, (h (b + n) (by omega)).2]
def patom (g : Int → Int) (z n : Int) (br : Int → Int → Int → Int32 → RS) (p e lk : Int) (rd : Int32) : RS :=
  if 48 ≤ g p ∧ g p ≤ 57 then pnum g z 1000000 p e fun _ p e => .inr (p, e, lk, rd)
  else if tw g [40] p e = true then br p e lk rd
  else if pkind g p e = (-1) then .inl p
  else if pkind g p e = 1 then pnum g z (n - 1) (sk g e) (tke g z (sk g e)) fun v p e => .inr (p, e, lk, rd ||| bti v)
  else if pkind g p e = 2 ∨ pkind g p e = 3 then pnum g z 5 (sk g e) (tke g z (sk g e)) fun _ p e => .inr (p, e, lk, rd)
  else pwin g z (sk g e) (tke g z (sk g e)) lk rd
def ppart (g : Int → Int) (z n : Int) (br : Int → Int → Int → Int32 → RS) (p e lk : Int) (rd : Int32) : RS :=
  bnd (patom g z n br p e lk rd) fun p e lk rd => if tw g wElse p e = true then pnum g z 1000000 (sk g e) (tke g z (sk g e)) fun _ p e => .inr (p, e, lk, rd) else .inr (p, e, lk, rd)
def ploop (g : Int → Int) (z c1 c2 : Int) (sub : Int → Int → Int → Int32 → RS) : Nat → Int → Int → Int → Int32 → RS
  | 0, p, e, lk, rd => .inr (p, e, lk, rd)
  | n + 1, p, e, lk, rd => if tw g [c1] p e = true ∨ tw g [c2] p e = true then bnd (sub (sk g e) (tke g z (sk g e)) lk rd) (ploop g z c1 c2 sub n) else .inr (p, e, lk, rd)
def pterm (g : Int → Int) (z n : Int) (br : Int → Int → Int → Int32 → RS) (p e lk : Int) (rd : Int32) : RS := bnd (ppart g z n br p e lk rd) (ploop g z 42 47 (ppart g z n br) 200)
def psum (g : Int → Int) (z n : Int) (br : Int → Int → Int → Int32 → RS) (p e lk : Int) (rd : Int32) : RS := bnd (pterm g z n br p e lk rd) (ploop g z 43 45 (pterm g z n br) 200)
def pB (g : Int → Int) (z n : Int) : Nat → Int → Int → Int → Int32 → RS
  | 0, p, _, _, _ => .inl p
  | l + 1, _, e, lk, rd => bnd (psum g z n (pB g z n l) (sk g e) (tke g z (sk g e)) lk rd) fun p e lk rd => ptak g z [41] p e fun p e => .inr (p, e, lk, rd)
def pread (g : Int → Int) (z n : Int) : RS := bnd (psum g z n (pB g z n 8) (sk g 0) (tke g z (sk g 0)) 0 0) fun p e lk rd => if p < z then .inl p else .inr (p, e, lk, rd)
theorem pB_0 {g : Int → Int} {z n : Int} {p e lk : Int} {rd : Int32} : pB g z n 0 p e lk rd = .inl p := rfl
theorem pB_s {g : Int → Int} {z n : Int} {l : Nat} {p e lk : Int} {rd : Int32} : pB g z n (l + 1) p e lk rd = bnd (psum g z n (pB g z n l) (sk g e) (tke g z (sk g e)) lk rd) fun p e lk rd => ptak g z [41] p e fun p e => .inr (p, e, lk, rd) := rfl
theorem ploop_go {g : Int → Int} {z c1 c2 : Int} {sub : Int → Int → Int → Int32 → RS} {n : Nat} {p e lk : Int} {rd : Int32} (h : tw g [c1] p e = true ∨ tw g [c2] p e = true) : ploop g z c1 c2 sub (n + 1) p e lk rd = bnd (sub (sk g e) (tke g z (sk g e)) lk rd) (ploop g z c1 c2 sub n) := if_pos h
theorem ploop_end {g : Int → Int} {z c1 c2 : Int} {sub : Int → Int → Int → Int32 → RS} {n : Nat} {p e lk : Int} {rd : Int32} (h : ¬ (tw g [c1] p e = true ∨ tw g [c2] p e = true)) : ploop g z c1 c2 sub n p e lk rd = .inr (p, e, lk, rd) := by
  cases n with
  | zero => rfl
  | succ n => exact if_neg h
/-- what a call of trait answers and leaves -/
def trRes (x : RS) (n fa r n' fa' : Int) : Prop :=
  if 20 ≤ n then r = (-5) ∧ n' = n ∧ fa' = fa else
  match x with
  | .inl f => r = (-6) ∧ n' = n ∧ fa' = f
  | .inr (_, _, lk, _) => if lk = 0 then r = n ∧ n' = n + 1 ∧ fa' = (-1) else r = (-3) ∧ n' = n ∧ fa' = (-1)
theorem trRes_uni {x : RS} {n fa r1 n1 fa1 r2 n2 fa2 : Int} (h1 : trRes x n fa r1 n1 fa1) (h2 : trRes x n fa r2 n2 fa2) : r1 = r2 ∧ n1 = n2 ∧ fa1 = fa2 := by
  unfold trRes at h1 h2
  by_cases q : 20 ≤ n
  · rw [if_pos q] at h1 h2
    exact ⟨h1.1.trans h2.1.symm, h1.2.1.trans h2.2.1.symm, h1.2.2.trans h2.2.2.symm⟩
  · rw [if_neg q] at h1 h2
    cases x with
    | inl f => exact ⟨h1.1.trans h2.1.symm, h1.2.1.trans h2.2.1.symm, h1.2.2.trans h2.2.2.symm⟩
    | inr y =>
      obtain ⟨p, e, lk, rd⟩ := y
      dsimp only at h1 h2
      by_cases w : lk = 0
      · rw [if_pos w] at h1 h2
        exact ⟨h1.1.trans h2.1.symm, h1.2.1.trans h2.2.1.symm, h1.2.2.trans h2.2.2.symm⟩
      · rw [if_neg w] at h1 h2
        exact ⟨h1.1.trans h2.1.symm, h1.2.1.trans h2.2.1.symm, h1.2.2.trans h2.2.2.symm⟩
theorem trRes_20 {x : RS} {n fa r n' fa' : Int} (h : 20 ≤ n) (h1 : r = (-5)) (h2 : n' = n) (h3 : fa' = fa) : trRes x n fa r n' fa' := by
  unfold trRes
  rw [if_pos h]
  exact ⟨h1, h2, h3⟩
theorem trRes_l {x : RS} {n fa r n' fa' f : Int} (h : ¬ 20 ≤ n) (hx : x = .inl f) (h1 : r = (-6)) (h2 : n' = n) (h3 : fa' = f) : trRes x n fa r n' fa' := by
  unfold trRes
  rw [if_neg h, hx]
  exact ⟨h1, h2, h3⟩
theorem trRes_r0 {x : RS} {n fa r n' fa' p e lk : Int} {rd : Int32} (h : ¬ 20 ≤ n) (hx : x = .inr (p, e, lk, rd)) (hl : lk = 0) (h1 : r = n) (h2 : n' = n + 1) (h3 : fa' = (-1)) : trRes x n fa r n' fa' := by
  unfold trRes
  rw [if_neg h, hx]
  show (if lk = 0 then r = n ∧ n' = n + 1 ∧ fa' = (-1) else r = (-3) ∧ n' = n ∧ fa' = (-1))
  rw [if_pos hl]
  exact ⟨h1, h2, h3⟩
theorem trRes_r1 {x : RS} {n fa r n' fa' p e lk : Int} {rd : Int32} (h : ¬ 20 ≤ n) (hx : x = .inr (p, e, lk, rd)) (hl : ¬ lk = 0) (h1 : r = (-3)) (h2 : n' = n) (h3 : fa' = (-1)) : trRes x n fa r n' fa' := by
  unfold trRes
  rw [if_neg h, hx]
  show (if lk = 0 then r = n ∧ n' = n + 1 ∧ fa' = (-1) else r = (-3) ∧ n' = n ∧ fa' = (-1))
  rw [if_neg hl]
  exact ⟨h1, h2, h3⟩
/-- an answer that says whether; out of omega's sight -/
def ITW (r : Int32) (b : Bool) : Prop := ¬ r.toInt = 0 ↔ b = true
theorem ITW_mk {r : Int32} {b : Bool} (h : ¬ r.toInt = 0 ↔ b = true) : ITW r b := h
