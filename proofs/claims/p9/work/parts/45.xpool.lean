
/-! the traits that there are: their objects, rows of steps, what is kept -/
def stepOk (L : List Nat) (f : Nat → va_E) (a : Nat) : Prop := a ∈ L ∧ ∃ kd nb fr to : Int32, f a = .inr (4, [.int kd, .int nb, .int fr, .int to]) ∧ (kd.toInt = 1 → 0 ≤ nb.toInt ∧ nb.toInt ≤ 19)
def stepsOk (cA : Nat → ClassId) (L : List Nat) (f : Nat → va_E) (s : Nat) : Prop := s ∈ L ∧ ∃ (n : Nat) (g : Nat → Option Nat), f s = .inl (cA 4, n, .inr (.inr (.inr (.inr g)))) ∧ n ≤ 200 ∧ ∀ j, j < n → ∃ a, g j = some a ∧ stepOk L f a
def traitOk (cA : Nat → ClassId) (L : List Nat) (f : Nat → va_E) (t : Nat) (nd sa : Int32) : Prop := t ∈ L ∧ ∃ (s v m : Nat) (lf lt : Int64) (he : Int32), f t = .inr (6, [.ref s, .int nd, .ref v, .ref m, .long lf, .long lt, .int sa, .int he]) ∧ stepsOk cA L f s ∧ v ∈ L ∧ (∃ kv : Nat → Int64, f v = .inl (cA 1, 20, .inr (.inl kv))) ∧ m ∈ L ∧ ∃ km : Nat → Int32, f m = .inl (cA 0, 20, .inl km)
def TP (cA : Nat → ClassId) (n : Int32) (fTr : Nat → Option Nat) (L : List Nat) (f : Nat → va_E) (nd sa : Nat → Int32) : Prop := (∀ k : Nat, (k : Int) < n.toInt → ∃ t, fTr k = some t ∧ traitOk cA L f t (nd k) (sa k)) ∧ ∀ i j : Nat, (i : Int) < n.toInt → (j : Int) < n.toInt → fTr i = fTr j → i = j
/-- what may change in the pool: contents of rows of numbers, laws, counts -/
def shpE (e e' : va_E) : Prop := e' = e ∨ (∃ (c : ClassId) (n : Nat) (g g' : Nat → Int32), e = .inl (c, n, .inl g) ∧ e' = .inl (c, n, .inl g')) ∨ (∃ (c : ClassId) (n : Nat) (g g' : Nat → Int64), e = .inl (c, n, .inr (.inl g)) ∧ e' = .inl (c, n, .inr (.inl g'))) ∨ ∃ (s v m : Nat) (nd sa he he' : Int32) (a b a' b' : Int64), e = .inr (6, [.ref s, .int nd, .ref v, .ref m, .long a, .long b, .int sa, .int he]) ∧ e' = .inr (6, [.ref s, .int nd, .ref v, .ref m, .long a', .long b', .int sa, .int he'])
def shp (f f' : Nat → va_E) : Prop := ∀ a, shpE (f a) (f' a)
theorem shp_rf (f : Nat → va_E) : shp f f := fun _ => Or.inl rfl
theorem shpE_tr {e1 e2 e3 : va_E} (h1 : shpE e1 e2) (h2 : shpE e2 e3) : shpE e1 e3 := by
  rcases h1 with h1 | ⟨c, n, g, g', h1, h1'⟩ | ⟨c, n, g, g', h1, h1'⟩ | ⟨s, v, m, nd, sa, he, he', a, b, a', b', h1, h1'⟩
  · rw [h1] at h2; exact h2
  · rcases h2 with h2 | ⟨c2, n2, k, k', h2, h2'⟩ | ⟨c2, n2, k, k', h2, h2'⟩ | ⟨s2, v2, m2, nd2, sa2, he2, he2', a2, b2, a2', b2', h2, h2'⟩
    · exact Or.inr (Or.inl ⟨c, n, g, g', h1, h2.trans h1'⟩)
    · rw [h1'] at h2
      simp only [Sum.inl.injEq, Prod.mk.injEq] at h2
      obtain ⟨rfl, rfl, -⟩ := h2
      exact Or.inr (Or.inl ⟨c, n, g, k', h1, h2'⟩)
    · rw [h1'] at h2; simp at h2
    · rw [h1'] at h2; simp at h2
  · rcases h2 with h2 | ⟨c2, n2, k, k', h2, h2'⟩ | ⟨c2, n2, k, k', h2, h2'⟩ | ⟨s2, v2, m2, nd2, sa2, he2, he2', a2, b2, a2', b2', h2, h2'⟩
    · exact Or.inr (Or.inr (Or.inl ⟨c, n, g, g', h1, h2.trans h1'⟩))
    · rw [h1'] at h2; simp at h2
    · rw [h1'] at h2
      simp only [Sum.inl.injEq, Prod.mk.injEq] at h2
      obtain ⟨rfl, rfl, -⟩ := h2
      exact Or.inr (Or.inr (Or.inl ⟨c, n, g, k', h1, h2'⟩))
    · rw [h1'] at h2; simp at h2
  · rcases h2 with h2 | ⟨c2, n2, k, k', h2, h2'⟩ | ⟨c2, n2, k, k', h2, h2'⟩ | ⟨s2, v2, m2, nd2, sa2, he2, he2', a2, b2, a2', b2', h2, h2'⟩
    · exact Or.inr (Or.inr (Or.inr ⟨s, v, m, nd, sa, he, he', a, b, a', b', h1, h2.trans h1'⟩))
    · rw [h1'] at h2; simp at h2
    · rw [h1'] at h2; simp at h2
    · rw [h1'] at h2
      simp only [Sum.inr.injEq, Prod.mk.injEq, List.cons.injEq, Value.ref.injEq, Value.int.injEq, Value.long.injEq, true_and, and_true] at h2
      obtain ⟨rfl, rfl, rfl, rfl, -, -, rfl, -⟩ := h2
      exact Or.inr (Or.inr (Or.inr ⟨s, v, m, nd, sa, he, he2', a, b, a2', b2', h1, h2'⟩))
theorem shp_tr {f1 f2 f3 : Nat → va_E} (h1 : shp f1 f2) (h2 : shp f2 f3) : shp f1 f3 := fun a => shpE_tr (h1 a) (h2 a)
theorem shp_up {f g : Nat → va_E} {a : Nat} {e e0 : va_E} (eg : g = va_up f a e) (e1 : f a = e0) (h : shpE e0 e) : shp f g := by
  intro b
  rw [eg]
  by_cases q : b = a
  · subst q; rw [va_up_self, e1]; exact h
  · rw [va_up_ne _ _ q]; exact Or.inl rfl
theorem shp_step {L : List Nat} {f f' : Nat → va_E} {a : Nat} (h : shp f f') (ho : stepOk L f a) : stepOk L f' a := by
  obtain ⟨hm, kd, nb, fr, to, he, hk⟩ := ho
  refine ⟨hm, kd, nb, fr, to, ?_, hk⟩
  rcases h a with q | ⟨c, n, g, g', q, -⟩ | ⟨c, n, g, g', q, -⟩ | ⟨s, v, m, nd, sa, he', he'', x, y, x', y', q, -⟩
  · rw [q]; exact he
  · rw [he] at q; simp at q
  · rw [he] at q; simp at q
  · rw [he] at q; simp at q
theorem shp_steps {cA : Nat → ClassId} {L : List Nat} {f f' : Nat → va_E} {s : Nat} (h : shp f f') (ho : stepsOk cA L f s) : stepsOk cA L f' s := by
  obtain ⟨hm, n, g, he, hn, hs⟩ := ho
  refine ⟨hm, n, g, ?_, hn, fun j hj => ?_⟩
  · rcases h s with q | ⟨c, n', k, k', q, -⟩ | ⟨c, n', k, k', q, -⟩ | ⟨s', v, m, nd, sa, he', he'', x, y, x', y', q, -⟩
    · rw [q]; exact he
    · rw [he] at q; simp at q
    · rw [he] at q; simp at q
    · rw [he] at q; simp at q
  · obtain ⟨a, h1, h2⟩ := hs j hj
    exact ⟨a, h1, shp_step h h2⟩
theorem shp_trait {cA : Nat → ClassId} {L : List Nat} {f f' : Nat → va_E} {t : Nat} {nd sa : Int32} (h : shp f f') (ho : traitOk cA L f t nd sa) : traitOk cA L f' t nd sa := by
  obtain ⟨hm, s, v, m, lf, lt, he, ht, hs, hv, ⟨kv, hkv⟩, hmm, ⟨km, hkm⟩⟩ := ho
  have h1 : ∃ (lf' lt' : Int64) (he' : Int32), f' t = .inr (6, [.ref s, .int nd, .ref v, .ref m, .long lf', .long lt', .int sa, .int he']) := by
    rcases h t with q | ⟨c, n', k, k', q, -⟩ | ⟨c, n', k, k', q, -⟩ | ⟨s', v', m', nd', sa', he', he'', x, y, x', y', q, q'⟩
    · exact ⟨lf, lt, he, by rw [q]; exact ht⟩
    · rw [ht] at q; simp at q
    · rw [ht] at q; simp at q
    · rw [ht] at q
      simp only [Sum.inr.injEq, Prod.mk.injEq, List.cons.injEq, Value.ref.injEq, Value.int.injEq, Value.long.injEq, true_and, and_true] at q
      obtain ⟨rfl, rfl, rfl, rfl, -, -, rfl, -⟩ := q
      exact ⟨x', y', he'', q'⟩
  obtain ⟨lf', lt', he', h1⟩ := h1
  refine ⟨hm, s, v, m, lf', lt', he', h1, shp_steps h hs, hv, ?_, hmm, ?_⟩
  · rcases h v with q | ⟨c, n', k, k', q, -⟩ | ⟨c, n', k, k', q, q'⟩ | ⟨s', v', m', nd', sa', he', he'', x, y, x', y', q, -⟩
    · exact ⟨kv, by rw [q]; exact hkv⟩
    · rw [hkv] at q; simp at q
    · rw [hkv] at q
      simp only [Sum.inl.injEq, Prod.mk.injEq] at q
      obtain ⟨rfl, rfl, -⟩ := q
      exact ⟨k', q'⟩
    · rw [hkv] at q; simp at q
  · rcases h m with q | ⟨c, n', k, k', q, q'⟩ | ⟨c, n', k, k', q, -⟩ | ⟨s', v', m', nd', sa', he', he'', x, y, x', y', q, -⟩
    · exact ⟨km, by rw [q]; exact hkm⟩
    · rw [hkm] at q
      simp only [Sum.inl.injEq, Prod.mk.injEq] at q
      obtain ⟨rfl, rfl, -⟩ := q
      exact ⟨k', q'⟩
    · rw [hkm] at q; simp at q
    · rw [hkm] at q; simp at q
theorem shp_TP {cA : Nat → ClassId} {n : Int32} {fTr : Nat → Option Nat} {L : List Nat} {f f' : Nat → va_E} {nd sa : Nat → Int32} (h : TP cA n fTr L f nd sa) (hs : shp f f') : TP cA n fTr L f' nd sa := by
  refine ⟨fun k hk => ?_, h.2⟩
  obtain ⟨t, h1, h2⟩ := h.1 k hk
  exact ⟨t, h1, shp_trait hs h2⟩
theorem TP_at {cA : Nat → ClassId} {n i : Int32} {fTr : Nat → Option Nat} {L : List Nat} {f : Nat → va_E} {nd sa : Nat → Int32} (h : TP cA n fTr L f nd sa) (h0 : 0 ≤ i.toInt) (h1 : i.toInt < n.toInt) : ∃ t, fTr i.toNatClampNeg = some t ∧ traitOk cA L f t (nd i.toNatClampNeg) (sa i.toNatClampNeg) := by
  have e : i.toNatClampNeg = i.toInt.toNat := rfl
  exact h.1 i.toNatClampNeg (by omega)
theorem shpE_i {c : ClassId} {n : Nat} {g g' : Nat → Int32} : shpE (.inl (c, n, .inl g)) (.inl (c, n, .inl g')) := Or.inr (Or.inl ⟨c, n, g, g', rfl, rfl⟩)
theorem shpE_l {c : ClassId} {n : Nat} {g g' : Nat → Int64} : shpE (.inl (c, n, .inr (.inl g))) (.inl (c, n, .inr (.inl g'))) := Or.inr (Or.inr (Or.inl ⟨c, n, g, g', rfl, rfl⟩))
theorem shpE_t {s v m : Nat} {nd sa he he' : Int32} {a b a' b' : Int64} : shpE (.inr (6, [.ref s, .int nd, .ref v, .ref m, .long a, .long b, .int sa, .int he])) (.inr (6, [.ref s, .int nd, .ref v, .ref m, .long a', .long b', .int sa, .int he'])) := Or.inr (Or.inr (Or.inr ⟨s, v, m, nd, sa, he, he', a, b, a', b', rfl, rfl⟩))
