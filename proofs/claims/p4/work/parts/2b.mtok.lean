/-! the reference's reader: a token, the program that is laid -/
def dig (x : Int32) : Prop := 48 ≤ x.toInt ∧ x.toInt ≤ 57
def tokOK (f : Nat → Int32) (from_ to size : Int32) : Prop := from_.toInt < size.toInt → dig (f from_.toNatClampNeg) → ∀ k : Nat, from_.toInt ≤ k → (k : Int) < to.toInt → dig (f k)
def prg (f fA g gA : Nat → Int32) (b l n : Nat) (ok : Prop) : Prop := l ≤ n ∧ (∀ k, k < b + l → g k = f k ∧ gA k = fA k) ∧ wfp g gA b n ∧ (ok → dep g b n = dep f b l + 1)
theorem dep_cong {f g : Nat → Int32} {b : Nat} : ∀ {n : Nat}, (∀ k, k < b + n → g k = f k) → dep g b n = dep f b n := by
  intro n
  induction n with
  | zero => intro _; rfl
  | succ n ih =>
    intro h
    show dep g b n + dlt (g (b + n)) = dep f b n + dlt (f (b + n))
    rw [ih (fun k hk => h k (by omega)), h (b + n) (by omega)]
theorem wfp_ext {f fA g gA : Nat → Int32} {b n : Nat} (h : wfp f fA b n) (hk : ∀ k, k < b + n → g k = f k ∧ gA k = fA k) (hs : (1 ≤ (g (b + n)).toInt ∧ (g (b + n)).toInt ≤ 4 → 2 ≤ dep f b n) ∧ ((g (b + n)).toInt = 5 → 1 ≤ dep f b n) ∧ ((g (b + n)).toInt = 6 → 0 ≤ (gA (b + n)).toInt ∧ (gA (b + n)).toInt ≤ 19)) : wfp g gA b (n + 1) := by
  intro j hj
  rcases Nat.lt_or_ge j n with q | q
  · have e := hk (b + j) (by omega)
    rw [e.1, e.2, dep_cong (n := j) (fun k hk' => (hk k (by omega)).1)]
    exact h j q
  · have e : j = n := by omega
    subst e
    rw [dep_cong (n := j) (fun k hk' => (hk k (by omega)).1)]
    exact hs
theorem prg_rf {f fA : Nat → Int32} {b l : Nat} {ok : Prop} (h : wfp f fA b l) (hn : ¬ ok) : prg f fA f fA b l l ok := ⟨Nat.le_refl _, fun _ _ => ⟨rfl, rfl⟩, h, fun q => absurd q hn⟩
theorem prg_bad {f fA g gA h hA : Nat → Int32} {b l n n2 : Nat} {ok ok1 ok2 : Prop} (h1 : prg f fA g gA b l n ok1) (h2 : prg g gA h hA b n n2 ok2) (hn : ¬ ok) : prg f fA h hA b l n2 ok := by
  refine ⟨Nat.le_trans h1.1 h2.1, fun k hk => ?_, h2.2.2.1, fun q => absurd q hn⟩
  have e1 := h1.2.1 k hk
  have e2 := h2.2.1 k (by have := h1.1; omega)
  exact ⟨e2.1.trans e1.1, e2.2.trans e1.2⟩
theorem prg_same {f fA g gA : Nat → Int32} {b l n : Nat} {ok ok1 : Prop} (h1 : prg f fA g gA b l n ok1) (h : ok → ok1) : prg f fA g gA b l n ok := ⟨h1.1, h1.2.1, h1.2.2.1, fun q => h1.2.2.2 (h q)⟩
theorem upd_lt {f : Nat → Int32} {k b : Nat} {x : Int32} (h : k < b) : upd f b x k = f k := pk_un (Nat.ne_of_lt h)
/-- a value is laid -/
theorem prg_push {f fA g gA : Nat → Int32} {b l n : Nat} {c x : Int32} {ok : Prop} (h : wfp f fA b l) (hc : ¬ (1 ≤ c.toInt ∧ c.toInt ≤ 5)) (h6 : c.toInt = 6 → 0 ≤ x.toInt ∧ x.toInt ≤ 19) (eg : g = upd f (b + l) c) (eA : gA = upd fA (b + l) x) (hn : n = l + 1) : prg f fA g gA b l n ok := by
  subst eg; subst eA; subst hn
  have hk : ∀ k, k < b + l → upd f (b + l) c k = f k ∧ upd fA (b + l) x k = fA k := fun k hk => ⟨upd_lt hk, upd_lt hk⟩
  refine ⟨by omega, hk, wfp_ext h hk ?_, fun _ => ?_⟩
  · rw [pk_us, pk_us]
    exact ⟨fun q => absurd ⟨q.1, by omega⟩ hc, fun q => absurd ⟨by omega, by omega⟩ hc, h6⟩
  · show dep _ b l + dlt (upd f (b + l) c (b + l)) = _
    rw [pk_us, dep_cong (n := l) (fun k hk' => (hk k hk').1), dlt, if_neg (by omega), if_neg (by omega)]
/-- 'else' is laid -/
theorem prg_else {f fA g gA h hA : Nat → Int32} {b l n n2 : Nat} {c x : Int32} {ok ok1 : Prop} (hw : wfp f fA b l) (h1 : prg f fA g gA b l n ok1) (ho : ok1) (hc : c.toInt = 5) (eg : h = upd g (b + n) c) (eA : hA = upd gA (b + n) x) (hn : n2 = n + 1) : prg f fA h hA b l n2 ok := by
  subst eg; subst eA; subst hn
  have hd := h1.2.2.2 ho
  have h0 := dep_nn hw l (Nat.le_refl _)
  have hk : ∀ k, k < b + n → upd g (b + n) c k = g k ∧ upd gA (b + n) x k = gA k := fun k hk => ⟨upd_lt hk, upd_lt hk⟩
  refine ⟨by have := h1.1; omega, fun k hk' => ?_, wfp_ext h1.2.2.1 hk ?_, fun _ => ?_⟩
  · have e := hk k (by have := h1.1; omega)
    have e1 := h1.2.1 k hk'
    exact ⟨e.1.trans e1.1, e.2.trans e1.2⟩
  · rw [pk_us, pk_us]
    exact ⟨fun q => by omega, fun q => by omega, fun q => by omega⟩
  · show dep _ b n + dlt (upd g (b + n) c (b + n)) = _
    rw [pk_us, dep_cong (n := n) (fun k hk' => (hk k hk').1), dlt, if_neg (by omega), if_pos hc, hd]
    omega
/-- a joining step is laid behind two values -/
theorem prg_op {f fA g gA h hA h' hA' : Nat → Int32} {b l n n2 n3 : Nat} {c x : Int32} {ok ok1 ok2 : Prop} (hw : wfp f fA b l) (h1 : prg f fA g gA b l n ok1) (ho1 : ok1) (h2 : prg g gA h hA b n n2 ok2) (ho2 : ok2) (hc : 1 ≤ c.toInt ∧ c.toInt ≤ 4) (eg : h' = upd h (b + n2) c) (eA : hA' = upd hA (b + n2) x) (hn : n3 = n2 + 1) : prg f fA h' hA' b l n3 ok := by
  subst eg; subst eA; subst hn
  have hd := h1.2.2.2 ho1
  have hd2 := h2.2.2.2 ho2
  have h0 := dep_nn hw l (Nat.le_refl _)
  have hk : ∀ k, k < b + n2 → upd h (b + n2) c k = h k ∧ upd hA (b + n2) x k = hA k := fun k hk => ⟨upd_lt hk, upd_lt hk⟩
  have l1 := h1.1
  have l2 := h2.1
  refine ⟨by omega, fun k hk' => ?_, wfp_ext h2.2.2.1 hk ?_, fun _ => ?_⟩
  · have e := hk k (by omega)
    have e1 := h1.2.1 k hk'
    have e2 := h2.2.1 k (by omega)
    exact ⟨e.1.trans (e2.1.trans e1.1), e.2.trans (e2.2.trans e1.2)⟩
  · rw [pk_us, pk_us]
    exact ⟨fun q => by omega, fun q => by omega, fun q => by omega⟩
  · show dep _ b n2 + dlt (upd h (b + n2) c (b + n2)) = _
    rw [pk_us, dep_cong (n := n2) (fun k hk' => (hk k hk').1), dlt, if_pos hc, hd2, hd]
    omega
/-- the programs ahead stay as they were -/
theorem prog_keep {f fA g gA f0 : Nat → Int32} {n : Int32} {b l m : Nat} {ok : Prop} (h : progOK f fA f0 n) (h0 : inB 0 200 20 f0) (hn : n.toInt ≤ 20) (hb : b = 250 * n.toInt.toNat) (hp : prg f fA g gA b l m ok) : progOK g gA f0 n := by
  intro i hi j hj
  have hs := h0 i (by omega)
  have e : ∀ k, k < 250 * i + j + 1 → g k = f k ∧ gA k = fA k := fun k hk => hp.2.1 k (by omega)
  rw [(e _ (by omega)).1, (e _ (by omega)).2, dep_cong (n := j) (fun k hk => (e k (by omega)).1)]
  exact h i hi j hj
theorem prog_new {g gA f0 : Nat → Int32} {n n' len : Int32} (h : progOK g gA f0 n) (hn : 0 ≤ n.toInt) (hn' : n'.toInt = n.toInt + 1) (hw : wfp g gA (250 * n.toInt.toNat) len.toInt.toNat) {f1 : Nat → Int32} (e1 : f1 = upd f0 n.toNatClampNeg len) : progOK g gA f1 n' := by
  intro i hi
  have e : n.toNatClampNeg = n.toInt.toNat := rfl
  rw [e1, e]
  by_cases q : i = n.toInt.toNat
  · subst q; rw [pk_us]; exact hw
  · rw [pk_un q]; exact h i (by omega)
theorem tok_rf {f : Nat → Int32} {from_ to size : Int32} (h : to.toInt ≤ from_.toInt) : tokOK f from_ to size := fun _ _ k h1 h2 => by omega
theorem tok_no {f : Nat → Int32} {from_ to size : Int32} (h : from_.toInt < size.toInt → ¬ dig (f from_.toNatClampNeg)) : tokOK f from_ to size := fun q1 q2 => absurd q2 (h q1)
theorem tok_all {f : Nat → Int32} {from_ to size : Int32} (h : ∀ k : Nat, from_.toInt ≤ k → (k : Int) < to.toInt → dig (f k)) : tokOK f from_ to size := fun _ _ => h

theorem puts_ix {at_ t l : Int32} (h : at_.toInt = 250 * t.toInt + l.toInt) (h0 : 0 ≤ t.toInt) (h1 : 0 ≤ l.toInt) : at_.toNatClampNeg = 250 * t.toInt.toNat + l.toInt.toNat := by
  have : at_.toNatClampNeg = at_.toInt.toNat := rfl
  omega
theorem tok_ext {f : Nat → Int32} {fr to to2 : Int32} {x : Int32} (h : ∀ k : Nat, fr.toInt ≤ k → (k : Int) < to.toInt → dig (f k)) (hd : dig (f to.toNatClampNeg)) (h0 : 0 ≤ to.toInt) (ht : to2.toInt = to.toInt + 1) : ∀ k : Nat, fr.toInt ≤ k → (k : Int) < to2.toInt → dig (f k) := by
  intro k h1 h2
  by_cases e : k = to.toNatClampNeg
  · rw [e]; exact hd
  · have : to.toNatClampNeg = to.toInt.toNat := rfl
    exact h k h1 (by omega)
theorem tok_ne {f : Nat → Int32} {fr to size : Int32} {lo hi : Int} (h : fr.toInt ≤ to.toInt) (hs : fr.toInt < size.toInt) (h1 : lo ≤ (f fr.toNatClampNeg).toInt ∧ (f fr.toNatClampNeg).toInt ≤ hi) (h2 : to.toInt < size.toInt → ¬ (lo ≤ (f to.toNatClampNeg).toInt ∧ (f to.toNatClampNeg).toInt ≤ hi)) : fr.toInt < to.toInt := by
  rcases Int.lt_or_eq_of_le h with q | q
  · exact q
  · have e : fr = to := Int32.toInt_inj.mp q
    subst e
    exact absurd h1 (h2 hs)
theorem tok_one {f : Nat → Int32} {fr to size : Int32} (h0 : 0 ≤ fr.toInt) (ht : to.toInt = fr.toInt + 1) : tokOK f fr to size := by
  intro _ hd k h1 h2
  have : fr.toNatClampNeg = fr.toInt.toNat := rfl
  have e : k = fr.toNatClampNeg := by omega
  rw [e]; exact hd

/-! from the rows of bytes to the pure reader -/
theorem rs_inl {fl p e lk rd : Int32} {a : Int} (h : ¬ fl.toInt = (-1)) (ha : fl.toInt = a) : rs fl p e lk rd = .inl a := by rw [rs_no h, ha]
theorem rs_inr {fl p e lk rd d : Int32} {a b c : Int} (h : fl.toInt = (-1)) (ha : p.toInt = a) (hb : e.toInt = b) (hc : lk.toInt = c) (hd : rd = d) : rs fl p e lk rd = .inr (a, b, c, d) := by rw [rs_ok h, ha, hb, hc, hd]
theorem sk_end {f : Nat → Int32} {z k : Int32} (h0 : 0 ≤ k.toInt) (h : ¬ (k.toInt < z.toInt ∧ (f k.toNatClampNeg).toInt = 32)) : sk (tpe f z) k.toInt = k.toInt := sk_done (fun q => h ((tp_eq h0 (by decide) (by decide)).mp q))
theorem sk_go {f : Nat → Int32} {z k k2 : Int32} (h0 : 0 ≤ k.toInt) (h1 : k.toInt < z.toInt) (hx : (f k.toNatClampNeg).toInt = 32) (hz : z.toInt ≤ 200) (h2 : k2.toInt = k.toInt + 1) : sk (tpe f z) k2.toInt = sk (tpe f z) k.toInt := by
  rw [h2, ← sk_step ((tp_eq h0 (by decide) (by decide)).mpr ⟨h1, hx⟩) (by omega)]
theorem rl_go {g : Int → Int} {lo hi : Int} {k k2 : Int32} (h : lo ≤ g k.toInt ∧ g k.toInt ≤ hi) (hk : k.toInt < 200) (h2 : k2.toInt = k.toInt + 1) : rl g lo hi k2.toInt = rl g lo hi k.toInt := by
  rw [h2, ← rl_step h hk]
/-- a number: taken, or a fault -/
def nmR (g : Int → Int) (z mx p e : Int) (ok : Prop) (r p' e' fl : Int) : Prop := (ok → nOK g mx p e ∧ r = dv g p (e - p).toNat ∧ p' = sk g e ∧ e' = tke g z (sk g e)) ∧ (¬ ok → ¬ nOK g mx p e ∧ fl = p)
theorem nm_ok {g : Int → Int} {z mx p e r p' e' fl : Int} {ok : Prop} {k : Int → Int → Int → RS} (h : nmR g z mx p e ok r p' e' fl) (ho : ok) : pnum g z mx p e k = k r p' e' := by
  obtain ⟨h1, h2, h3, h4⟩ := h.1 ho
  rw [pnum_ok h1, ← h2, ← h4, ← h3]
theorem nm_no {g : Int → Int} {z mx p e r p' e' fl : Int} {ok : Prop} {k : Int → Int → Int → RS} (h : nmR g z mx p e ok r p' e' fl) (ho : ¬ ok) : pnum g z mx p e k = .inl fl := by
  obtain ⟨h1, h2⟩ := h.2 ho
  rw [pnum_no h1, ← h2]
theorem nm_le {g : Int → Int} {z mx x p e r p' e' fl : Int} {ok : Prop} {k : Int → Int → Int → RS} (h : nmR g z mx p e ok r p' e' fl) (ho : ok) (hx : r ≤ x) : pnum g z x p e k = k r p' e' := by
  obtain ⟨h1, h2, h3, h4⟩ := h.1 ho
  rw [pnum_ok ⟨h1.1, h1.2.1, by omega⟩, ← h2, ← h4, ← h3]
theorem nm_gt {g : Int → Int} {z mx x p e r p' e' fl : Int} {ok : Prop} {k : Int → Int → Int → RS} (h : nmR g z mx p e ok r p' e' fl) (ho : ok) (hx : x < r) : pnum g z x p e k = .inl p := by
  obtain ⟨h1, h2, h3, h4⟩ := h.1 ho
  rw [pnum_no (fun q => by have := q.2.2; omega)]
theorem nm_no2 {g : Int → Int} {z mx x p e r p' e' fl : Int} {ok : Prop} {k : Int → Int → Int → RS} (h : nmR g z mx p e ok r p' e' fl) (ho : ¬ ok) (hx : x ≤ mx) : pnum g z x p e k = .inl fl := by
  obtain ⟨h1, h2⟩ := h.2 ho
  rw [pnum_no (fun q => h1 ⟨q.1, q.2.1, by have := q.2.2; omega⟩), ← h2]
/-- the loop of a sum or a term -/
theorem lp_back {g : Int → Int} {z c1 c2 : Int} {sub : Int → Int → Int → Int32 → RS} {n n' : Nat} {fl p e lk rd fl' p' e' lk' rd' : Int32} {a b : Int} {T : RS} (hI : bnd (rs fl p e lk rd) (ploop g z c1 c2 sub n) = T) (hg : fl.toInt = (-1)) (hs : tw g [c1] p.toInt e.toInt = true ∨ tw g [c2] p.toInt e.toInt = true) (hn : n = n' + 1) (ha : a = sk g e.toInt) (hb : b = tke g z (sk g e.toInt)) (hx : rs fl' p' e' lk' rd' = sub a b lk.toInt rd) : bnd (rs fl' p' e' lk' rd') (ploop g z c1 c2 sub n') = T := by
  rw [← hI, rs_ok hg, hn]
  show _ = ploop g z c1 c2 sub (n' + 1) p.toInt e.toInt lk.toInt rd
  rw [ploop_go hs, hx, ha, hb]
theorem lp_end {g : Int → Int} {z c1 c2 : Int} {sub : Int → Int → Int → Int32 → RS} {n : Nat} {fl p e lk rd : Int32} {T : RS} (hI : bnd (rs fl p e lk rd) (ploop g z c1 c2 sub n) = T) (hx : ¬ fl.toInt = (-1) ∨ ¬ (tw g [c1] p.toInt e.toInt = true ∨ tw g [c2] p.toInt e.toInt = true) ∨ n = 0) : rs fl p e lk rd = T := by
  rw [← hI]
  by_cases q : fl.toInt = (-1)
  · rw [rs_ok q]
    show _ = ploop g z c1 c2 sub n p.toInt e.toInt lk.toInt rd
    rcases hx with h | h | h
    · exact absurd q h
    · rw [ploop_end h]
    · rw [h]; rfl
  · rw [rs_no q]; rfl
/-- the same with the loop's own bound -/
def lpI (g : Int → Int) (z c1 c2 : Int) (sub : Int → Int → Int → Int32 → RS) (fl p e lk rd : Int32) (T : RS) : Prop := ∃ n : Nat, 200 - p.toInt ≤ n ∧ bnd (rs fl p e lk rd) (ploop g z c1 c2 sub n) = T
theorem lpI_0 {g : Int → Int} {z c1 c2 : Int} {sub : Int → Int → Int → Int32 → RS} {fl p e lk rd : Int32} {X : RS} (h0 : 0 ≤ p.toInt) (hx : rs fl p e lk rd = X) : lpI g z c1 c2 sub fl p e lk rd (bnd X (ploop g z c1 c2 sub 200)) := ⟨200, by omega, by rw [hx]⟩
theorem lpI_s {g : Int → Int} {z c1 c2 : Int} {sub : Int → Int → Int → Int32 → RS} {fl p e lk rd fl' p' e' lk' rd' : Int32} {a b : Int} {T : RS} (hI : lpI g z c1 c2 sub fl p e lk rd T) (hg : fl.toInt = (-1)) (hs : tw g [c1] p.toInt e.toInt = true ∨ tw g [c2] p.toInt e.toInt = true) (h0 : p.toInt < 200) (hp : p.toInt + 1 ≤ p'.toInt) (ha : a = sk g e.toInt) (hb : b = tke g z (sk g e.toInt)) (hx : rs fl' p' e' lk' rd' = sub a b lk.toInt rd) : lpI g z c1 c2 sub fl' p' e' lk' rd' T := by
  obtain ⟨n, hn, hI⟩ := hI
  exact ⟨n - 1, by omega, lp_back hI hg hs (by omega) ha hb hx⟩
theorem lpI_e {g : Int → Int} {z c1 c2 : Int} {sub : Int → Int → Int → Int32 → RS} {fl p e lk rd : Int32} {T : RS} (hI : lpI g z c1 c2 sub fl p e lk rd T) (hx : ¬ fl.toInt = (-1) ∨ ¬ (tw g [c1] p.toInt e.toInt = true ∨ tw g [c2] p.toInt e.toInt = true)) : rs fl p e lk rd = T := by
  obtain ⟨n, hn, hI⟩ := hI
  exact lp_end hI (by rcases hx with h | h; exact Or.inl h; exact Or.inr (Or.inl h))
theorem tok_g {f : Nat → Int32} {p e z : Int32} (h : tokOK f p e z) (h0 : 0 ≤ p.toInt) (he : e.toInt ≤ z.toInt) (hd : 48 ≤ tpe f z p.toInt ∧ tpe f z p.toInt ≤ 57) : ∀ k : Nat, k < (e.toInt - p.toInt).toNat → 48 ≤ tpe f z (p.toInt + k) ∧ tpe f z (p.toInt + k) ≤ 57 := by
  intro k hk
  obtain ⟨q1, q2⟩ := (tp_rng h0 (by decide) (by decide)).mp hd
  have h1 := h q1 q2 (p.toInt.toNat + k) (by omega) (by omega)
  have e1 : tpe f z (p.toInt + k) = nrm (f (p.toInt.toNat + k)).toInt := by
    show (if 0 ≤ p.toInt + k ∧ p.toInt + k < z.toInt then nrm (f (p.toInt + k).toNat).toInt else 0) = _
    rw [if_pos ⟨by omega, by omega⟩, show (p.toInt + (k : Int)).toNat = p.toInt.toNat + k by omega]
  rw [e1]
  exact (nrm_rng (by decide) (by decide)).mpr h1
theorem dig_at {f : Nat → Int32} {p i z x : Int32} (h0 : 0 ≤ p.toInt) (hpi : p.toInt ≤ i.toInt) (hiz : i.toInt < z.toInt) (ex : x = f i.toNatClampNeg) (hx : 48 ≤ x.toInt ∧ x.toInt ≤ 57) : tpe f z (p.toInt + ((i.toInt - p.toInt).toNat : Nat)) = x.toInt := by
  rw [show p.toInt + (((i.toInt - p.toInt).toNat : Nat) : Int) = i.toInt by omega, tp_in (by omega) hiz, ← ex]
  exact (nrm_eq (by omega) (by omega)).mpr rfl
/-- the reference's number: v, up to k -/
def rnI (g : Int → Int) (mx : Int) (p k : Int32) (v : Int64) : Prop := (v.toInt ≤ mx → v.toInt = dv g p.toInt (k.toInt - p.toInt).toNat) ∧ (mx < v.toInt → mx < dv g p.toInt (k.toInt - p.toInt).toNat)
theorem rn_0 {g : Int → Int} {mx : Int} {p k : Int32} {v : Int64} (hk : k.toInt = p.toInt) (hv : v.toInt = 0) (hm : 0 ≤ mx) : rnI g mx p k v := by
  unfold rnI
  rw [show (k.toInt - p.toInt).toNat = 0 by omega]
  exact ⟨fun _ => hv, fun h => by omega⟩
theorem rn_s {f : Nat → Int32} {mx : Int} {p k k2 z x : Int32} {v v2 : Int64} (h : rnI (tpe f z) mx p k v) (h0 : 0 ≤ p.toInt) (hpi : p.toInt ≤ k.toInt) (hiz : k.toInt < z.toInt) (h2 : k2.toInt = k.toInt + 1) (hv : v.toInt ≤ mx) (ex : x = f k.toNatClampNeg) (hx : 48 ≤ x.toInt ∧ x.toInt ≤ 57) (hv2 : v2.toInt = 10 * v.toInt + x.toInt - 48) : rnI (tpe f z) mx p k2 v2 := by
  have e1 : dv (tpe f z) p.toInt (k2.toInt - p.toInt).toNat = v2.toInt := by
    rw [show (k2.toInt - p.toInt).toNat = (k.toInt - p.toInt).toNat + 1 by omega]
    show 10 * dv (tpe f z) p.toInt (k.toInt - p.toInt).toNat + (tpe f z (p.toInt + ((k.toInt - p.toInt).toNat : Nat)) - 48) = _
    rw [dig_at h0 hpi hiz ex hx, ← h.1 hv]
    omega
  unfold rnI
  rw [e1]
  exact ⟨fun _ => rfl, fun h => h⟩
theorem rn_k {f : Nat → Int32} {mx : Int} {p e k k2 z : Int32} {v : Int64} (h : rnI (tpe f z) mx p k v) (hpi : p.toInt ≤ k.toInt) (hke : k.toInt < e.toInt) (hd : ∀ k : Nat, k < (e.toInt - p.toInt).toNat → 48 ≤ tpe f z (p.toInt + k) ∧ tpe f z (p.toInt + k) ≤ 57) (h2 : k2.toInt = k.toInt + 1) (hv : mx < v.toInt) : rnI (tpe f z) mx p k2 v := by
  have e1 := dv_mono (g := tpe f z) (p := p.toInt) (n := (k.toInt - p.toInt).toNat) (m := (k2.toInt - p.toInt).toNat) (by omega) (fun j hj => (hd j (by omega)).1)
  have e2 := h.2 hv
  exact ⟨fun q => by omega, fun _ => by omega⟩
theorem rn_bad {g : Int → Int} {mx : Int} {p e : Int32} {v : Int64} (h : rnI g mx p e v) (hv : mx < v.toInt) : ¬ nOK g mx p.toInt e.toInt := fun q => by have := h.2 hv; have := q.2.2; omega
theorem rn_ok {g : Int → Int} {mx : Int} {p e : Int32} {v : Int64} (h : rnI g mx p e v) (hv : v.toInt ≤ mx) (hd : 48 ≤ g p.toInt ∧ g p.toInt ≤ 57) (h0 : 0 ≤ v.toInt) : nOK g mx p.toInt e.toInt ∧ v.toInt = dv g p.toInt (e.toInt - p.toInt).toNat := ⟨⟨hd, by rw [← h.1 hv]; exact h0, by rw [← h.1 hv]; exact hv⟩, h.1 hv⟩
theorem rnI_eq {g : Int → Int} {mx : Int} {p k e : Int32} {v : Int64} (h : rnI g mx p k v) (he : k.toInt = e.toInt) : rnI g mx p e v := by
  unfold rnI at h ⊢
  rw [← he]; exact h
theorem nOK_neg {f : Nat → Int32} {mx : Int} {p e z : Int32} (h : tokOK f p e z) (h0 : 0 ≤ p.toInt) (he : e.toInt ≤ z.toInt) (hm : mx < 0) : ¬ nOK (tpe f z) mx p.toInt e.toInt := fun q => by
  have h1 := q.2.1
  have := q.2.2
  omega
/-- a word of the reference: five bits a letter -/
def twd (g : Int → Int) : Nat → Int → Int → Int → Bool
  | 0, _, p, e => decide (p = e)
  | n + 1, w, p, e => if 0 < w then (decide (g p = 96 + w % 32 ∧ p < e) && twd g n (w / 32) (p + 1) e) else decide (p = e)
def twI (g : Int → Int) (l : Int64) (k e : Int32) (T : Bool) : Prop := ∃ n : Nat, l.toInt < 32 ^ n ∧ twd g n l.toInt k.toInt e.toInt = T
theorem twI_0 {g : Int → Int} {l : Int64} {k e p : Int32} (hk : k.toInt = p.toInt) : twI g l k e (twd g 13 l.toInt p.toInt e.toInt) := by
  refine ⟨13, ?_, by rw [hk]⟩
  have h1 := Int64.toInt_lt l
  have e9 : (32 : Int) ^ 13 = 36893488147419103232 := by decide
  rw [e9]
  omega
theorem twI_no {g : Int → Int} {l : Int64} {k e : Int32} {T : Bool} (h : twI g l k e T) (hl : 0 < l.toInt) (hx : ¬ (k.toInt < e.toInt ∧ g k.toInt = 96 + l.toInt % 32)) : ¬ T = true := by
  obtain ⟨n, h1, h2⟩ := h
  rw [← h2]
  cases n with
  | zero => exfalso; have : (32 : Int) ^ 0 = 1 := rfl; omega
  | succ n =>
    show ¬ (if 0 < l.toInt then (decide (g k.toInt = 96 + l.toInt % 32 ∧ k.toInt < e.toInt) && twd g n (l.toInt / 32) (k.toInt + 1) e.toInt) else decide (k.toInt = e.toInt)) = true
    rw [if_pos hl, Bool.and_eq_true, decide_eq_true_iff]
    exact fun q => hx ⟨q.1.2, q.1.1⟩
theorem twI_s {g : Int → Int} {l l2 : Int64} {k k2 e : Int32} {T : Bool} (h : twI g l k e T) (hl : 0 < l.toInt) (h1 : k.toInt < e.toInt) (h2 : g k.toInt = 96 + l.toInt % 32) (hl2 : l2.toInt = l.toInt / 32) (hk : k2.toInt = k.toInt + 1) : twI g l2 k2 e T := by
  obtain ⟨n, q1, q2⟩ := h
  cases n with
  | zero => exfalso; have : (32 : Int) ^ 0 = 1 := rfl; omega
  | succ n =>
    refine ⟨n, ?_, ?_⟩
    · rw [Int.pow_succ] at q1
      rw [hl2]
      exact Int.ediv_lt_of_lt_mul (by decide) q1
    · rw [← q2, hl2, hk]
      show _ = (if 0 < l.toInt then (decide (g k.toInt = 96 + l.toInt % 32 ∧ k.toInt < e.toInt) && twd g n (l.toInt / 32) (k.toInt + 1) e.toInt) else decide (k.toInt = e.toInt))
      rw [if_pos hl, decide_eq_true ⟨h2, h1⟩, Bool.true_and]
theorem twI_e {g : Int → Int} {l : Int64} {k e : Int32} {T : Bool} (h : twI g l k e T) (hl : l.toInt ≤ 0) : T = true ↔ k.toInt = e.toInt := by
  obtain ⟨n, q1, q2⟩ := h
  rw [← q2]
  cases n with
  | zero => show decide (k.toInt = e.toInt) = true ↔ _; exact decide_eq_true_iff
  | succ n =>
    show (if 0 < l.toInt then (decide (g k.toInt = 96 + l.toInt % 32 ∧ k.toInt < e.toInt) && twd g n (l.toInt / 32) (k.toInt + 1) e.toInt) else decide (k.toInt = e.toInt)) = true ↔ _
    rw [if_neg (by omega)]
    exact decide_eq_true_iff
theorem jL_and31 {x y : Int64} (e : y = x &&& 31) (h : 0 ≤ x.toInt) : y.toInt = x.toInt % 32 := by
  have hx : x.toInt = (x.toBitVec.toNat : Int) := by
    have h1 : x.toInt = x.toBitVec.toInt := rfl
    rw [h1, BitVec.toInt_eq_toNat_cond]
    split
    · rfl
    · next q =>
      exfalso
      rw [h1, BitVec.toInt_eq_toNat_cond, if_neg q] at h
      have := x.toBitVec.isLt
      omega
  have hy : y.toBitVec = x.toBitVec &&& 31#64 := by rw [e]; rfl
  have hn : y.toBitVec.toNat = x.toBitVec.toNat % 32 := by
    rw [hy, BitVec.toNat_and, show (31#64 : BitVec 64).toNat = 2 ^ 5 - 1 by decide, Nat.and_two_pow_sub_one_eq_mod]
  have hy2 : y.toInt = (y.toBitVec.toNat : Int) := by
    have h1 : y.toInt = y.toBitVec.toInt := rfl
    rw [h1, BitVec.toInt_eq_toNat_cond, if_pos (by omega)]
  rw [hy2, hn, hx]
  omega
theorem jL_shr5 {x y : Int64} (e : y = x >>> ((5 : Int32).toInt64 &&& 63)) : y.toInt = x.toInt / 32 := by
  have h1 : y.toBitVec = x.toBitVec.sshiftRight 5 := by rw [e]; rfl
  show y.toBitVec.toInt = x.toBitVec.toInt / 32
  rw [h1, BitVec.toInt_sshiftRight, Int.shiftRight_eq_div_pow]
  rfl
theorem orb_0 {f fA g gA : Nat → Int32} {b l n : Nat} {c x : Int32} (hc : ¬ c.toInt = 6) (eg : g = upd f (b + l) c) (eA : gA = upd fA (b + l) x) (hn : n = l + 1) : orb g gA b n = orb f fA b l := by
  subst eg; subst eA; subst hn
  show (if (upd f (b + l) c (b + l)).toInt = 6 then _ else orb (upd f (b + l) c) (upd fA (b + l) x) b l) = _
  rw [pk_us, if_neg hc]
  exact orb_cong (fun k hk => ⟨upd_lt hk, upd_lt hk⟩)
theorem orb_6 {f fA g gA : Nat → Int32} {b l n : Nat} {c x : Int32} (hc : c.toInt = 6) (eg : g = upd f (b + l) c) (eA : gA = upd fA (b + l) x) (hn : n = l + 1) : orb g gA b n = orb f fA b l ||| bti x.toInt := by
  subst eg; subst eA; subst hn
  show (if (upd f (b + l) c (b + l)).toInt = 6 then orb (upd f (b + l) c) (upd fA (b + l) x) b l ||| bti (upd fA (b + l) x (b + l)).toInt else _) = _
  rw [pk_us, if_pos hc, pk_us, orb_cong (fun k hk => ⟨upd_lt hk, upd_lt hk⟩)]

set_option maxHeartbeats 8000000 in
set_option maxRecDepth 100000 in
theorem k_X9_isIn (l : Launch) (dC : Nat → ClassId) (dI : Nat → Nat → Nat) (cA : Nat → ClassId) (sz : Nat) (am : Nat → Nat) (v_status : Int32) (v_now : Int32) (v_told : Int32) (v_merges : Int32) (v_taped : Int32) (v_size : Int32) (v_from : Int32) (v_to : Int32) (v_fault : Int32) (v_readFault : Int32) (v_traits : Int32) (v_length : Int32) (v_open : Int32) (v_leaks : Int32) (v_places : Int32) (v_models : Int32) (f_tape : Nat → Int32) (kk : Int32) (lo : Int32) (hi : Int32) (i_v_now : 0 ≤ v_now.toInt ∧ v_now.toInt ≤ 100000) (i_v_told : 0 ≤ v_told.toInt ∧ v_told.toInt ≤ 400) (i_v_taped : 0 ≤ v_taped.toInt ∧ v_taped.toInt ≤ 200) (i_v_size : 0 ≤ v_size.toInt ∧ v_size.toInt ≤ 200) (i_v_from : 0 ≤ v_from.toInt ∧ v_from.toInt ≤ 200) (i_v_to : 0 ≤ v_to.toInt ∧ v_to.toInt ≤ 200) (i_v_traits : 0 ≤ v_traits.toInt ∧ v_traits.toInt ≤ 20) (i_v_length : 0 ≤ v_length.toInt ∧ v_length.toInt ≤ 200) (i_v_open : 0 ≤ v_open.toInt ∧ v_open.toInt ≤ 8) (i_v_places : 0 ≤ v_places.toInt ∧ v_places.toInt ≤ 2000) (i_v_models : 0 ≤ v_models.toInt ∧ v_models.toInt ≤ 10) (hkk : 0 ≤ kk.toInt ∧ kk.toInt ≤ 200) (hlh : 1 ≤ lo.toInt ∧ hi.toInt ≤ 127) : Met l yX9_isIn wsX9_isIn ({ frames := 0, cells := 0, slots := 0, locals := 0 }) (va_Pc [.ref (am 0), .int kk, .int lo, .int hi] (fun U => U.heap.size = sz ∧ va_P (dC, dI) vwCl [((am 0), .inr (9, F9 am v_status v_now v_told v_merges v_taped v_size v_from v_to v_fault v_readFault v_traits v_length v_open v_leaks v_places v_models)), ((am 10), .inl (cA 3, 200, .inl f_tape))] U.heap ∧ va_K (dC, dI) vwCl (tyL cA) U ∧ va_D (fun _ => True) [((am 0), .inr (9, F9 am v_status v_now v_told v_merges v_taped v_size v_from v_to v_fault v_readFault v_traits v_length v_open v_leaks v_places v_models)), ((am 10), .inl (cA 3, 200, .inl f_tape))] ∧ nw_ok U)) (va_Qi (fun (r : Int32) (_ : Unit) => ((0 ≤ r.toInt ∧ r.toInt ≤ 1) ∧ (¬ r.toInt = 0 → kk.toInt < v_size.toInt ∧ lo.toInt ≤ (f_tape kk.toNatClampNeg).toInt ∧ (f_tape kk.toNatClampNeg).toInt ≤ hi.toInt) ∧ (r.toInt = 0 → kk.toInt < v_size.toInt → ¬ (lo.toInt ≤ (f_tape kk.toNatClampNeg).toInt ∧ (f_tape kk.toNatClampNeg).toInt ≤ hi.toInt))) ∧ ((¬ r.toInt = 0 ↔ (lo.toInt ≤ tpe f_tape v_size kk.toInt ∧ tpe f_tape v_size kk.toInt ≤ hi.toInt)))) (fun (_ : Unit) (t : State) => va_P (dC, dI) vwCl [((am 0), .inr (9, F9 am v_status v_now v_told v_merges v_taped v_size v_from v_to v_fault v_readFault v_traits v_length v_open v_leaks v_places v_models)), ((am 10), .inl (cA 3, 200, .inl f_tape))] t.heap ∧ va_D (va_A [((am 0), .inr (9, F9 am v_status v_now v_told v_merges v_taped v_size v_from v_to v_fault v_readFault v_traits v_length v_open v_leaks v_places v_models)), ((am 10), .inl (cA 3, 200, .inl f_tape))] sz) [((am 0), .inr (9, F9 am v_status v_now v_told v_merges v_taped v_size v_from v_to v_fault v_readFault v_traits v_length v_open v_leaks v_places v_models)), ((am 10), .inl (cA 3, 200, .inl f_tape))]) (va_A [((am 0), .inr (9, F9 am v_status v_now v_told v_merges v_taped v_size v_from v_to v_fault v_readFault v_traits v_length v_open v_leaks v_places v_models)), ((am 10), .inl (cA 3, 200, .inl f_tape))] sz)) 0 0 (va_A [((am 0), .inr (9, F9 am v_status v_now v_told v_merges v_taped v_size v_from v_to v_fault v_readFault v_traits v_length v_open v_leaks v_places v_models)), ((am 10), .inl (cA 3, 200, .inl f_tape))] sz) := by
  sorry
set_option maxHeartbeats 8000000 in
set_option maxRecDepth 100000 in
theorem k_X9_next (l : Launch) (dC : Nat → ClassId) (dI : Nat → Nat → Nat) (cA : Nat → ClassId) (sz : Nat) (am : Nat → Nat) (v_status : Int32) (v_now : Int32) (v_told : Int32) (v_merges : Int32) (v_taped : Int32) (v_size : Int32) (v_from : Int32) (v_to : Int32) (v_fault : Int32) (v_readFault : Int32) (v_traits : Int32) (v_length : Int32) (v_open : Int32) (v_leaks : Int32) (v_places : Int32) (v_models : Int32) (f_tape : Nat → Int32) (i_v_now : 0 ≤ v_now.toInt ∧ v_now.toInt ≤ 100000) (i_v_told : 0 ≤ v_told.toInt ∧ v_told.toInt ≤ 400) (i_v_taped : 0 ≤ v_taped.toInt ∧ v_taped.toInt ≤ 200) (i_v_size : 0 ≤ v_size.toInt ∧ v_size.toInt ≤ 200) (i_v_from : 0 ≤ v_from.toInt ∧ v_from.toInt ≤ 200) (i_v_to : 0 ≤ v_to.toInt ∧ v_to.toInt ≤ 200) (i_v_traits : 0 ≤ v_traits.toInt ∧ v_traits.toInt ≤ 20) (i_v_length : 0 ≤ v_length.toInt ∧ v_length.toInt ≤ 200) (i_v_open : 0 ≤ v_open.toInt ∧ v_open.toInt ≤ 8) (i_v_places : 0 ≤ v_places.toInt ∧ v_places.toInt ≤ 2000) (i_v_models : 0 ≤ v_models.toInt ∧ v_models.toInt ≤ 10) (hsz : v_to.toInt ≤ v_size.toInt) : Met l yX9_next wsX9_next ({ frames := 1, cells := 0, slots := 0, locals := 23 }) (va_Pc [.ref (am 0)] (fun U => U.heap.size = sz ∧ va_P (dC, dI) vwCl [((am 0), .inr (9, F9 am v_status v_now v_told v_merges v_taped v_size v_from v_to v_fault v_readFault v_traits v_length v_open v_leaks v_places v_models)), ((am 10), .inl (cA 3, 200, .inl f_tape))] U.heap ∧ va_K (dC, dI) vwCl (tyL cA) U ∧ va_D (fun _ => True) [((am 0), .inr (9, F9 am v_status v_now v_told v_merges v_taped v_size v_from v_to v_fault v_readFault v_traits v_length v_open v_leaks v_places v_models)), ((am 10), .inl (cA 3, 200, .inl f_tape))] ∧ nw_ok U)) (va_Qv (fun (u : Int32 × Int32) => (0 ≤ u.1.toInt ∧ u.1.toInt ≤ 200) ∧ (0 ≤ u.2.toInt ∧ u.2.toInt ≤ 200) ∧ (v_to.toInt ≤ u.1.toInt ∧ u.1.toInt ≤ u.2.toInt ∧ u.2.toInt ≤ v_size.toInt ∧ (u.1.toInt < v_size.toInt → u.1.toInt < u.2.toInt)) ∧ (tokOK f_tape u.1 u.2 v_size) ∧ (u.1.toInt = sk (tpe f_tape v_size) v_to.toInt ∧ u.2.toInt = tke (tpe f_tape v_size) v_size.toInt (sk (tpe f_tape v_size) v_to.toInt))) (fun (u : Int32 × Int32) (t : State) => va_P (dC, dI) vwCl [((am 0), .inr (9, F9 am v_status v_now v_told v_merges v_taped v_size u.1 u.2 v_fault v_readFault v_traits v_length v_open v_leaks v_places v_models)), ((am 10), .inl (cA 3, 200, .inl f_tape))] t.heap ∧ va_D (va_A [((am 0), .inr (9, F9 am v_status v_now v_told v_merges v_taped v_size v_from v_to v_fault v_readFault v_traits v_length v_open v_leaks v_places v_models)), ((am 10), .inl (cA 3, 200, .inl f_tape))] sz) [((am 0), .inr (9, F9 am v_status v_now v_told v_merges v_taped v_size u.1 u.2 v_fault v_readFault v_traits v_length v_open v_leaks v_places v_models)), ((am 10), .inl (cA 3, 200, .inl f_tape))]) (va_A [((am 0), .inr (9, F9 am v_status v_now v_told v_merges v_taped v_size v_from v_to v_fault v_readFault v_traits v_length v_open v_leaks v_places v_models)), ((am 10), .inl (cA 3, 200, .inl f_tape))] sz)) 0 0 (va_A [((am 0), .inr (9, F9 am v_status v_now v_told v_merges v_taped v_size v_from v_to v_fault v_readFault v_traits v_length v_open v_leaks v_places v_models)), ((am 10), .inl (cA 3, 200, .inl f_tape))] sz) := by
  sorry
set_option maxHeartbeats 8000000 in
set_option maxRecDepth 100000 in
theorem k_X9_isWord (l : Launch) (dC : Nat → ClassId) (dI : Nat → Nat → Nat) (cA : Nat → ClassId) (sz : Nat) (am : Nat → Nat) (v_status : Int32) (v_now : Int32) (v_told : Int32) (v_merges : Int32) (v_taped : Int32) (v_size : Int32) (v_from : Int32) (v_to : Int32) (v_fault : Int32) (v_readFault : Int32) (v_traits : Int32) (v_length : Int32) (v_open : Int32) (v_leaks : Int32) (v_places : Int32) (v_models : Int32) (f_tape : Nat → Int32) (wo : Int64) (i_v_now : 0 ≤ v_now.toInt ∧ v_now.toInt ≤ 100000) (i_v_told : 0 ≤ v_told.toInt ∧ v_told.toInt ≤ 400) (i_v_taped : 0 ≤ v_taped.toInt ∧ v_taped.toInt ≤ 200) (i_v_size : 0 ≤ v_size.toInt ∧ v_size.toInt ≤ 200) (i_v_from : 0 ≤ v_from.toInt ∧ v_from.toInt ≤ 200) (i_v_to : 0 ≤ v_to.toInt ∧ v_to.toInt ≤ 200) (i_v_traits : 0 ≤ v_traits.toInt ∧ v_traits.toInt ≤ 20) (i_v_length : 0 ≤ v_length.toInt ∧ v_length.toInt ≤ 200) (i_v_open : 0 ≤ v_open.toInt ∧ v_open.toInt ≤ 8) (i_v_places : 0 ≤ v_places.toInt ∧ v_places.toInt ≤ 2000) (i_v_models : 0 ≤ v_models.toInt ∧ v_models.toInt ≤ 10) (hwo : 0 < wo.toInt) (hft : v_from.toInt ≤ v_to.toInt) (hto : v_to.toInt ≤ v_size.toInt) : Met l yX9_isWord wsX9_isWord ({ frames := 0, cells := 0, slots := 0, locals := 0 }) (va_Pc [.ref (am 0), .long wo] (fun U => U.heap.size = sz ∧ va_P (dC, dI) vwCl [((am 0), .inr (9, F9 am v_status v_now v_told v_merges v_taped v_size v_from v_to v_fault v_readFault v_traits v_length v_open v_leaks v_places v_models)), ((am 10), .inl (cA 3, 200, .inl f_tape))] U.heap ∧ va_K (dC, dI) vwCl (tyL cA) U ∧ va_D (fun _ => True) [((am 0), .inr (9, F9 am v_status v_now v_told v_merges v_taped v_size v_from v_to v_fault v_readFault v_traits v_length v_open v_leaks v_places v_models)), ((am 10), .inl (cA 3, 200, .inl f_tape))] ∧ nw_ok U)) (va_Qi (fun (r : Int32) (_ : Unit) => ((0 ≤ r.toInt ∧ r.toInt ≤ 1) ∧ (¬ r.toInt = 0 → v_from.toInt < v_to.toInt)) ∧ (ITW r (twd (tpe f_tape v_size) 13 wo.toInt v_from.toInt v_to.toInt))) (fun (_ : Unit) (t : State) => va_P (dC, dI) vwCl [((am 0), .inr (9, F9 am v_status v_now v_told v_merges v_taped v_size v_from v_to v_fault v_readFault v_traits v_length v_open v_leaks v_places v_models)), ((am 10), .inl (cA 3, 200, .inl f_tape))] t.heap ∧ va_D (va_A [((am 0), .inr (9, F9 am v_status v_now v_told v_merges v_taped v_size v_from v_to v_fault v_readFault v_traits v_length v_open v_leaks v_places v_models)), ((am 10), .inl (cA 3, 200, .inl f_tape))] sz) [((am 0), .inr (9, F9 am v_status v_now v_told v_merges v_taped v_size v_from v_to v_fault v_readFault v_traits v_length v_open v_leaks v_places v_models)), ((am 10), .inl (cA 3, 200, .inl f_tape))]) (va_A [((am 0), .inr (9, F9 am v_status v_now v_told v_merges v_taped v_size v_from v_to v_fault v_readFault v_traits v_length v_open v_leaks v_places v_models)), ((am 10), .inl (cA 3, 200, .inl f_tape))] sz)) 0 0 (va_A [((am 0), .inr (9, F9 am v_status v_now v_told v_merges v_taped v_size v_from v_to v_fault v_readFault v_traits v_length v_open v_leaks v_places v_models)), ((am 10), .inl (cA 3, 200, .inl f_tape))] sz) := by
  sorry
set_option maxHeartbeats 8000000 in
set_option maxRecDepth 100000 in
theorem k_X9_isSign (l : Launch) (dC : Nat → ClassId) (dI : Nat → Nat → Nat) (cA : Nat → ClassId) (sz : Nat) (am : Nat → Nat) (v_status : Int32) (v_now : Int32) (v_told : Int32) (v_merges : Int32) (v_taped : Int32) (v_size : Int32) (v_from : Int32) (v_to : Int32) (v_fault : Int32) (v_readFault : Int32) (v_traits : Int32) (v_length : Int32) (v_open : Int32) (v_leaks : Int32) (v_places : Int32) (v_models : Int32) (f_tape : Nat → Int32) (cc : Int32) (i_v_now : 0 ≤ v_now.toInt ∧ v_now.toInt ≤ 100000) (i_v_told : 0 ≤ v_told.toInt ∧ v_told.toInt ≤ 400) (i_v_taped : 0 ≤ v_taped.toInt ∧ v_taped.toInt ≤ 200) (i_v_size : 0 ≤ v_size.toInt ∧ v_size.toInt ≤ 200) (i_v_from : 0 ≤ v_from.toInt ∧ v_from.toInt ≤ 200) (i_v_to : 0 ≤ v_to.toInt ∧ v_to.toInt ≤ 200) (i_v_traits : 0 ≤ v_traits.toInt ∧ v_traits.toInt ≤ 20) (i_v_length : 0 ≤ v_length.toInt ∧ v_length.toInt ≤ 200) (i_v_open : 0 ≤ v_open.toInt ∧ v_open.toInt ≤ 8) (i_v_places : 0 ≤ v_places.toInt ∧ v_places.toInt ≤ 2000) (i_v_models : 0 ≤ v_models.toInt ∧ v_models.toInt ≤ 10) (hcc : 1 ≤ cc.toInt ∧ cc.toInt ≤ 127) : Met l yX9_isSign wsX9_isSign ({ frames := 0, cells := 0, slots := 0, locals := 0 }) (va_Pc [.ref (am 0), .int cc] (fun U => U.heap.size = sz ∧ va_P (dC, dI) vwCl [((am 0), .inr (9, F9 am v_status v_now v_told v_merges v_taped v_size v_from v_to v_fault v_readFault v_traits v_length v_open v_leaks v_places v_models)), ((am 10), .inl (cA 3, 200, .inl f_tape))] U.heap ∧ va_K (dC, dI) vwCl (tyL cA) U ∧ va_D (fun _ => True) [((am 0), .inr (9, F9 am v_status v_now v_told v_merges v_taped v_size v_from v_to v_fault v_readFault v_traits v_length v_open v_leaks v_places v_models)), ((am 10), .inl (cA 3, 200, .inl f_tape))] ∧ nw_ok U)) (va_Qi (fun (r : Int32) (_ : Unit) => ((0 ≤ r.toInt ∧ r.toInt ≤ 1) ∧ (¬ r.toInt = 0 → v_from.toInt < v_size.toInt ∧ v_to.toInt = v_from.toInt + 1)) ∧ (ITW r (tw (tpe f_tape v_size) [cc.toInt] v_from.toInt v_to.toInt))) (fun (_ : Unit) (t : State) => va_P (dC, dI) vwCl [((am 0), .inr (9, F9 am v_status v_now v_told v_merges v_taped v_size v_from v_to v_fault v_readFault v_traits v_length v_open v_leaks v_places v_models)), ((am 10), .inl (cA 3, 200, .inl f_tape))] t.heap ∧ va_D (va_A [((am 0), .inr (9, F9 am v_status v_now v_told v_merges v_taped v_size v_from v_to v_fault v_readFault v_traits v_length v_open v_leaks v_places v_models)), ((am 10), .inl (cA 3, 200, .inl f_tape))] sz) [((am 0), .inr (9, F9 am v_status v_now v_told v_merges v_taped v_size v_from v_to v_fault v_readFault v_traits v_length v_open v_leaks v_places v_models)), ((am 10), .inl (cA 3, 200, .inl f_tape))]) (va_A [((am 0), .inr (9, F9 am v_status v_now v_told v_merges v_taped v_size v_from v_to v_fault v_readFault v_traits v_length v_open v_leaks v_places v_models)), ((am 10), .inl (cA 3, 200, .inl f_tape))] sz)) 0 0 (va_A [((am 0), .inr (9, F9 am v_status v_now v_told v_merges v_taped v_size v_from v_to v_fault v_readFault v_traits v_length v_open v_leaks v_places v_models)), ((am 10), .inl (cA 3, 200, .inl f_tape))] sz) := by
  sorry
set_option maxHeartbeats 8000000 in
set_option maxRecDepth 100000 in
theorem k_X9_faults (l : Launch) (dC : Nat → ClassId) (dI : Nat → Nat → Nat) (cA : Nat → ClassId) (sz : Nat) (am : Nat → Nat) (v_status : Int32) (v_now : Int32) (v_told : Int32) (v_merges : Int32) (v_taped : Int32) (v_size : Int32) (v_from : Int32) (v_to : Int32) (v_fault : Int32) (v_readFault : Int32) (v_traits : Int32) (v_length : Int32) (v_open : Int32) (v_leaks : Int32) (v_places : Int32) (v_models : Int32) (i_v_now : 0 ≤ v_now.toInt ∧ v_now.toInt ≤ 100000) (i_v_told : 0 ≤ v_told.toInt ∧ v_told.toInt ≤ 400) (i_v_taped : 0 ≤ v_taped.toInt ∧ v_taped.toInt ≤ 200) (i_v_size : 0 ≤ v_size.toInt ∧ v_size.toInt ≤ 200) (i_v_from : 0 ≤ v_from.toInt ∧ v_from.toInt ≤ 200) (i_v_to : 0 ≤ v_to.toInt ∧ v_to.toInt ≤ 200) (i_v_traits : 0 ≤ v_traits.toInt ∧ v_traits.toInt ≤ 20) (i_v_length : 0 ≤ v_length.toInt ∧ v_length.toInt ≤ 200) (i_v_open : 0 ≤ v_open.toInt ∧ v_open.toInt ≤ 8) (i_v_places : 0 ≤ v_places.toInt ∧ v_places.toInt ≤ 2000) (i_v_models : 0 ≤ v_models.toInt ∧ v_models.toInt ≤ 10) (hgd : v_readFault.toInt = (-1)) : Met l yX9_faults wsX9_faults ({ frames := 0, cells := 0, slots := 0, locals := 0 }) (va_Pc [.ref (am 0)] (fun U => U.heap.size = sz ∧ va_P (dC, dI) vwCl [((am 0), .inr (9, F9 am v_status v_now v_told v_merges v_taped v_size v_from v_to v_fault v_readFault v_traits v_length v_open v_leaks v_places v_models))] U.heap ∧ va_K (dC, dI) vwCl (tyL cA) U ∧ va_D (fun _ => True) [((am 0), .inr (9, F9 am v_status v_now v_told v_merges v_taped v_size v_from v_to v_fault v_readFault v_traits v_length v_open v_leaks v_places v_models))] ∧ nw_ok U)) (va_Qv (fun (u : Int32) => (u.toInt = v_from.toInt)) (fun (u : Int32) (t : State) => va_P (dC, dI) vwCl [((am 0), .inr (9, F9 am v_status v_now v_told v_merges v_taped v_size v_from v_to v_fault u v_traits v_length v_open v_leaks v_places v_models))] t.heap ∧ va_D (va_A [((am 0), .inr (9, F9 am v_status v_now v_told v_merges v_taped v_size v_from v_to v_fault v_readFault v_traits v_length v_open v_leaks v_places v_models))] sz) [((am 0), .inr (9, F9 am v_status v_now v_told v_merges v_taped v_size v_from v_to v_fault u v_traits v_length v_open v_leaks v_places v_models))]) (va_A [((am 0), .inr (9, F9 am v_status v_now v_told v_merges v_taped v_size v_from v_to v_fault v_readFault v_traits v_length v_open v_leaks v_places v_models))] sz)) 0 0 (va_A [((am 0), .inr (9, F9 am v_status v_now v_told v_merges v_taped v_size v_from v_to v_fault v_readFault v_traits v_length v_open v_leaks v_places v_models))] sz) := by
  sorry
set_option maxHeartbeats 8000000 in
set_option maxRecDepth 100000 in
theorem k_X9_good (l : Launch) (dC : Nat → ClassId) (dI : Nat → Nat → Nat) (cA : Nat → ClassId) (sz : Nat) (am : Nat → Nat) (v_status : Int32) (v_now : Int32) (v_told : Int32) (v_merges : Int32) (v_taped : Int32) (v_size : Int32) (v_from : Int32) (v_to : Int32) (v_fault : Int32) (v_readFault : Int32) (v_traits : Int32) (v_length : Int32) (v_open : Int32) (v_leaks : Int32) (v_places : Int32) (v_models : Int32) (i_v_now : 0 ≤ v_now.toInt ∧ v_now.toInt ≤ 100000) (i_v_told : 0 ≤ v_told.toInt ∧ v_told.toInt ≤ 400) (i_v_taped : 0 ≤ v_taped.toInt ∧ v_taped.toInt ≤ 200) (i_v_size : 0 ≤ v_size.toInt ∧ v_size.toInt ≤ 200) (i_v_from : 0 ≤ v_from.toInt ∧ v_from.toInt ≤ 200) (i_v_to : 0 ≤ v_to.toInt ∧ v_to.toInt ≤ 200) (i_v_traits : 0 ≤ v_traits.toInt ∧ v_traits.toInt ≤ 20) (i_v_length : 0 ≤ v_length.toInt ∧ v_length.toInt ≤ 200) (i_v_open : 0 ≤ v_open.toInt ∧ v_open.toInt ≤ 8) (i_v_places : 0 ≤ v_places.toInt ∧ v_places.toInt ≤ 2000) (i_v_models : 0 ≤ v_models.toInt ∧ v_models.toInt ≤ 10)  : Met l yX9_good wsX9_good ({ frames := 0, cells := 0, slots := 0, locals := 0 }) (va_Pc [.ref (am 0)] (fun U => U.heap.size = sz ∧ va_P (dC, dI) vwCl [((am 0), .inr (9, F9 am v_status v_now v_told v_merges v_taped v_size v_from v_to v_fault v_readFault v_traits v_length v_open v_leaks v_places v_models))] U.heap ∧ va_K (dC, dI) vwCl (tyL cA) U ∧ va_D (fun _ => True) [((am 0), .inr (9, F9 am v_status v_now v_told v_merges v_taped v_size v_from v_to v_fault v_readFault v_traits v_length v_open v_leaks v_places v_models))] ∧ nw_ok U)) (va_Qi (fun (r : Int32) (_ : Unit) => ((v_readFault.toInt = (-1) → r.toInt = 1) ∧ (¬ v_readFault.toInt = (-1) → r.toInt = 0))) (fun (_ : Unit) (t : State) => va_P (dC, dI) vwCl [((am 0), .inr (9, F9 am v_status v_now v_told v_merges v_taped v_size v_from v_to v_fault v_readFault v_traits v_length v_open v_leaks v_places v_models))] t.heap ∧ va_D (va_A [((am 0), .inr (9, F9 am v_status v_now v_told v_merges v_taped v_size v_from v_to v_fault v_readFault v_traits v_length v_open v_leaks v_places v_models))] sz) [((am 0), .inr (9, F9 am v_status v_now v_told v_merges v_taped v_size v_from v_to v_fault v_readFault v_traits v_length v_open v_leaks v_places v_models))]) (va_A [((am 0), .inr (9, F9 am v_status v_now v_told v_merges v_taped v_size v_from v_to v_fault v_readFault v_traits v_length v_open v_leaks v_places v_models))] sz)) 0 0 (va_A [((am 0), .inr (9, F9 am v_status v_now v_told v_merges v_taped v_size v_from v_to v_fault v_readFault v_traits v_length v_open v_leaks v_places v_models))] sz) := by
  sorry
set_option maxHeartbeats 8000000 in
set_option maxRecDepth 100000 in
theorem k_X9_number (l : Launch) (dC : Nat → ClassId) (dI : Nat → Nat → Nat) (cA : Nat → ClassId) (sz : Nat) (am : Nat → Nat) (v_status : Int32) (v_now : Int32) (v_told : Int32) (v_merges : Int32) (v_taped : Int32) (v_size : Int32) (v_from : Int32) (v_to : Int32) (v_fault : Int32) (v_readFault : Int32) (v_traits : Int32) (v_length : Int32) (v_open : Int32) (v_leaks : Int32) (v_places : Int32) (v_models : Int32) (f_tape : Nat → Int32) (mx : Int32) (i_v_now : 0 ≤ v_now.toInt ∧ v_now.toInt ≤ 100000) (i_v_told : 0 ≤ v_told.toInt ∧ v_told.toInt ≤ 400) (i_v_taped : 0 ≤ v_taped.toInt ∧ v_taped.toInt ≤ 200) (i_v_size : 0 ≤ v_size.toInt ∧ v_size.toInt ≤ 200) (i_v_from : 0 ≤ v_from.toInt ∧ v_from.toInt ≤ 200) (i_v_to : 0 ≤ v_to.toInt ∧ v_to.toInt ≤ 200) (i_v_traits : 0 ≤ v_traits.toInt ∧ v_traits.toInt ≤ 20) (i_v_length : 0 ≤ v_length.toInt ∧ v_length.toInt ≤ 200) (i_v_open : 0 ≤ v_open.toInt ∧ v_open.toInt ≤ 8) (i_v_places : 0 ≤ v_places.toInt ∧ v_places.toInt ≤ 2000) (i_v_models : 0 ≤ v_models.toInt ∧ v_models.toInt ≤ 10) (hfr : v_from.toInt ≤ v_to.toInt ∧ v_to.toInt ≤ v_size.toInt ∧ (v_from.toInt < v_size.toInt → v_from.toInt < v_to.toInt)) (htk : tokOK f_tape v_from v_to v_size) (hgd : v_readFault.toInt = (-1)) (hmx : 0 ≤ mx.toInt ∧ mx.toInt ≤ 1000000) : Met l yX9_number wsX9_number ({ frames := 2, cells := 0, slots := 0, locals := 43 }) (va_Pc [.ref (am 0), .int mx] (fun U => U.heap.size = sz ∧ va_P (dC, dI) vwCl [((am 0), .inr (9, F9 am v_status v_now v_told v_merges v_taped v_size v_from v_to v_fault v_readFault v_traits v_length v_open v_leaks v_places v_models)), ((am 10), .inl (cA 3, 200, .inl f_tape))] U.heap ∧ va_K (dC, dI) vwCl (tyL cA) U ∧ va_D (fun _ => True) [((am 0), .inr (9, F9 am v_status v_now v_told v_merges v_taped v_size v_from v_to v_fault v_readFault v_traits v_length v_open v_leaks v_places v_models)), ((am 10), .inl (cA 3, 200, .inl f_tape))] ∧ nw_ok U)) (va_Qi (fun (r : Int32) (u : Int32 × Int32 × Int32) => (0 ≤ u.1.toInt ∧ u.1.toInt ≤ 200) ∧ (0 ≤ u.2.1.toInt ∧ u.2.1.toInt ≤ 200) ∧ (v_from.toInt ≤ u.1.toInt ∧ u.1.toInt ≤ u.2.1.toInt ∧ u.2.1.toInt ≤ v_size.toInt ∧ (u.1.toInt < v_size.toInt → u.1.toInt < u.2.1.toInt) ∧ (u.2.2.toInt = (-1) → v_from.toInt < u.1.toInt ∧ 0 ≤ r.toInt ∧ r.toInt ≤ mx.toInt)) ∧ (tokOK f_tape u.1 u.2.1 v_size) ∧ (nmR (tpe f_tape v_size) v_size.toInt mx.toInt v_from.toInt v_to.toInt (u.2.2.toInt = (-1)) r.toInt u.1.toInt u.2.1.toInt u.2.2.toInt)) (fun (u : Int32 × Int32 × Int32) (t : State) => va_P (dC, dI) vwCl [((am 0), .inr (9, F9 am v_status v_now v_told v_merges v_taped v_size u.1 u.2.1 v_fault u.2.2 v_traits v_length v_open v_leaks v_places v_models)), ((am 10), .inl (cA 3, 200, .inl f_tape))] t.heap ∧ va_D (va_A [((am 0), .inr (9, F9 am v_status v_now v_told v_merges v_taped v_size v_from v_to v_fault v_readFault v_traits v_length v_open v_leaks v_places v_models)), ((am 10), .inl (cA 3, 200, .inl f_tape))] sz) [((am 0), .inr (9, F9 am v_status v_now v_told v_merges v_taped v_size u.1 u.2.1 v_fault u.2.2 v_traits v_length v_open v_leaks v_places v_models)), ((am 10), .inl (cA 3, 200, .inl f_tape))]) (va_A [((am 0), .inr (9, F9 am v_status v_now v_told v_merges v_taped v_size v_from v_to v_fault v_readFault v_traits v_length v_open v_leaks v_places v_models)), ((am 10), .inl (cA 3, 200, .inl f_tape))] sz)) 0 0 (va_A [((am 0), .inr (9, F9 am v_status v_now v_told v_merges v_taped v_size v_from v_to v_fault v_readFault v_traits v_length v_open v_leaks v_places v_models)), ((am 10), .inl (cA 3, 200, .inl f_tape))] sz) := by
  sorry
set_option maxHeartbeats 8000000 in
set_option maxRecDepth 100000 in
theorem k_X9_puts (l : Launch) (dC : Nat → ClassId) (dI : Nat → Nat → Nat) (cA : Nat → ClassId) (sz : Nat) (am : Nat → Nat) (v_status : Int32) (v_now : Int32) (v_told : Int32) (v_merges : Int32) (v_taped : Int32) (v_size : Int32) (v_from : Int32) (v_to : Int32) (v_fault : Int32) (v_readFault : Int32) (v_traits : Int32) (v_length : Int32) (v_open : Int32) (v_leaks : Int32) (v_places : Int32) (v_models : Int32) (f_step : Nat → Int32) (f_stepA : Nat → Int32) (f_stepB : Nat → Int32) (f_stepC : Nat → Int32) (cd : Int32) (xx : Int32) (yy : Int32) (zz : Int32) (i_v_now : 0 ≤ v_now.toInt ∧ v_now.toInt ≤ 100000) (i_v_told : 0 ≤ v_told.toInt ∧ v_told.toInt ≤ 400) (i_v_taped : 0 ≤ v_taped.toInt ∧ v_taped.toInt ≤ 200) (i_v_size : 0 ≤ v_size.toInt ∧ v_size.toInt ≤ 200) (i_v_from : 0 ≤ v_from.toInt ∧ v_from.toInt ≤ 200) (i_v_to : 0 ≤ v_to.toInt ∧ v_to.toInt ≤ 200) (i_v_traits : 0 ≤ v_traits.toInt ∧ v_traits.toInt ≤ 20) (i_v_length : 0 ≤ v_length.toInt ∧ v_length.toInt ≤ 200) (i_v_open : 0 ≤ v_open.toInt ∧ v_open.toInt ≤ 8) (i_v_places : 0 ≤ v_places.toInt ∧ v_places.toInt ≤ 2000) (i_v_models : 0 ≤ v_models.toInt ∧ v_models.toInt ≤ 10) (htr : v_traits.toInt ≤ 19) (hln : v_length.toInt ≤ 199) : Met l yX9_puts wsX9_puts ({ frames := 0, cells := 0, slots := 0, locals := 0 }) (va_Pc [.ref (am 0), .int cd, .int xx, .int yy, .int zz] (fun U => U.heap.size = sz ∧ va_P (dC, dI) vwCl [((am 0), .inr (9, F9 am v_status v_now v_told v_merges v_taped v_size v_from v_to v_fault v_readFault v_traits v_length v_open v_leaks v_places v_models)), ((am 13), .inl (cA 0, 5000, .inl f_step)), ((am 14), .inl (cA 0, 5000, .inl f_stepA)), ((am 15), .inl (cA 0, 5000, .inl f_stepB)), ((am 16), .inl (cA 0, 5000, .inl f_stepC))] U.heap ∧ va_K (dC, dI) vwCl (tyL cA) U ∧ va_D (fun _ => True) [((am 0), .inr (9, F9 am v_status v_now v_told v_merges v_taped v_size v_from v_to v_fault v_readFault v_traits v_length v_open v_leaks v_places v_models)), ((am 13), .inl (cA 0, 5000, .inl f_step)), ((am 14), .inl (cA 0, 5000, .inl f_stepA)), ((am 15), .inl (cA 0, 5000, .inl f_stepB)), ((am 16), .inl (cA 0, 5000, .inl f_stepC))] ∧ nw_ok U)) (va_Qv (fun (u : Int32 × (Nat → Int32) × (Nat → Int32) × (Nat → Int32) × (Nat → Int32)) => (0 ≤ u.1.toInt ∧ u.1.toInt ≤ 200) ∧ (u.1.toInt = v_length.toInt + 1) ∧ (u.2.1 = upd f_step (250 * v_traits.toInt.toNat + v_length.toInt.toNat) cd) ∧ (u.2.2.1 = upd f_stepA (250 * v_traits.toInt.toNat + v_length.toInt.toNat) xx)) (fun (u : Int32 × (Nat → Int32) × (Nat → Int32) × (Nat → Int32) × (Nat → Int32)) (t : State) => va_P (dC, dI) vwCl [((am 0), .inr (9, F9 am v_status v_now v_told v_merges v_taped v_size v_from v_to v_fault v_readFault v_traits u.1 v_open v_leaks v_places v_models)), ((am 13), .inl (cA 0, 5000, .inl u.2.1)), ((am 14), .inl (cA 0, 5000, .inl u.2.2.1)), ((am 15), .inl (cA 0, 5000, .inl u.2.2.2.1)), ((am 16), .inl (cA 0, 5000, .inl u.2.2.2.2))] t.heap ∧ va_D (va_A [((am 0), .inr (9, F9 am v_status v_now v_told v_merges v_taped v_size v_from v_to v_fault v_readFault v_traits v_length v_open v_leaks v_places v_models)), ((am 13), .inl (cA 0, 5000, .inl f_step)), ((am 14), .inl (cA 0, 5000, .inl f_stepA)), ((am 15), .inl (cA 0, 5000, .inl f_stepB)), ((am 16), .inl (cA 0, 5000, .inl f_stepC))] sz) [((am 0), .inr (9, F9 am v_status v_now v_told v_merges v_taped v_size v_from v_to v_fault v_readFault v_traits u.1 v_open v_leaks v_places v_models)), ((am 13), .inl (cA 0, 5000, .inl u.2.1)), ((am 14), .inl (cA 0, 5000, .inl u.2.2.1)), ((am 15), .inl (cA 0, 5000, .inl u.2.2.2.1)), ((am 16), .inl (cA 0, 5000, .inl u.2.2.2.2))]) (va_A [((am 0), .inr (9, F9 am v_status v_now v_told v_merges v_taped v_size v_from v_to v_fault v_readFault v_traits v_length v_open v_leaks v_places v_models)), ((am 13), .inl (cA 0, 5000, .inl f_step)), ((am 14), .inl (cA 0, 5000, .inl f_stepA)), ((am 15), .inl (cA 0, 5000, .inl f_stepB)), ((am 16), .inl (cA 0, 5000, .inl f_stepC))] sz)) 0 0 (va_A [((am 0), .inr (9, F9 am v_status v_now v_told v_merges v_taped v_size v_from v_to v_fault v_readFault v_traits v_length v_open v_leaks v_places v_models)), ((am 13), .inl (cA 0, 5000, .inl f_step)), ((am 14), .inl (cA 0, 5000, .inl f_stepA)), ((am 15), .inl (cA 0, 5000, .inl f_stepB)), ((am 16), .inl (cA 0, 5000, .inl f_stepC))] sz) := by
  sorry
