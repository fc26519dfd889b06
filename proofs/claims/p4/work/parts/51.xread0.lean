/-! the reader of the developers' side: the steps that it makes -/
def stq (z z' : Int) (g g' : Nat → Option Nat) (L : List Nat) (f : Nat → va_E) : Prop := z ≤ z' ∧ (∀ j : Nat, (j : Int) < z → g' j = g j) ∧ (∀ j : Nat, z ≤ (j : Int) → (j : Int) < z' → ∃ a, g' j = some a ∧ stepOk L f a) ∧ ∀ a, a ∈ L → stepOk L f a
theorem stq_0 {z : Int} {g : Nat → Option Nat} {f : Nat → va_E} : stq z z g g [] f := ⟨Int.le_refl z, fun _ _ => rfl, fun j h1 h2 => by omega, fun a h => absurd h List.not_mem_nil⟩
theorem step_sub {L L' : List Nat} {f f' : Nat → va_E} {a : Nat} (h : stepOk L f a) (hL : a ∈ L → a ∈ L') (hf : f' a = f a) : stepOk L' f' a := by
  obtain ⟨h1, kd, nb, fr, to, h2, h3⟩ := h
  exact ⟨hL h1, kd, nb, fr, to, hf.trans h2, h3⟩
theorem stq_tr {z z1 z2 : Int} {g g1 g2 : Nat → Option Nat} {L1 L2 : List Nat} {f1 f2 f : Nat → va_E} (h1 : stq z z1 g g1 L1 f1) (h2 : stq z1 z2 g1 g2 L2 f2) (m1 : ∀ a, a ∈ L1 → f a = f1 a) (m2 : ∀ a, a ∈ L2 → f a = f2 a) : stq z z2 g g2 (L1 ++ L2) f := by
  have l1 := h1.1
  have l2 := h2.1
  refine ⟨by omega, fun j hj => (h2.2.1 j (by omega)).trans (h1.2.1 j hj), fun j q1 q2 => ?_, fun a ha => ?_⟩
  · by_cases q : (j : Int) < z1
    · obtain ⟨a, w1, w2⟩ := h1.2.2.1 j q1 q
      exact ⟨a, (h2.2.1 j q).trans w1, step_sub w2 (fun w => List.mem_append_left _ w) (m1 a w2.1)⟩
    · obtain ⟨a, w1, w2⟩ := h2.2.2.1 j (by omega) q2
      exact ⟨a, w1, step_sub w2 (fun w => List.mem_append_right _ w) (m2 a w2.1)⟩
  · rcases List.mem_append.mp ha with w | w
    · exact step_sub (h1.2.2.2 a w) (fun w => List.mem_append_left _ w) (m1 a w)
    · exact step_sub (h2.2.2.2 a w) (fun w => List.mem_append_right _ w) (m2 a w)
theorem va_D_nd {A : Nat → Prop} {ws : va_W} : va_D A ws ↔ (ws.map Prod.fst).Nodup ∧ ∀ q, q ∈ ws → A q.1 := by
  constructor
  · intro h
    refine ⟨?_, fun q hq => by obtain ⟨k, hk⟩ := List.getElem?_of_mem hq; exact h.2 k q hk⟩
    rw [List.nodup_iff_pairwise_ne, List.pairwise_iff_getElem]
    intro i j hi hj hij e
    rw [List.length_map] at hi hj
    rw [List.getElem_map, List.getElem_map] at e
    have := h.1 i j _ _ (List.getElem?_eq_getElem hi) (List.getElem?_eq_getElem hj) e
    omega
  · intro h
    refine ⟨fun i j p q hi hj e => ?_, fun k q hk => h.2 q (List.mem_of_getElem? hk)⟩
    have hn := h.1
    rw [List.nodup_iff_pairwise_ne, List.pairwise_iff_getElem] at hn
    obtain ⟨li, ei⟩ := List.getElem?_eq_some_iff.mp hi
    obtain ⟨lj, ej⟩ := List.getElem?_eq_some_iff.mp hj
    have mi : (ws.map Prod.fst)[i]'(by rw [List.length_map]; exact li) = p.1 := by rw [List.getElem_map, ei]
    have mj : (ws.map Prod.fst)[j]'(by rw [List.length_map]; exact lj) = q.1 := by rw [List.getElem_map, ej]
    rcases Nat.lt_trichotomy i j with w | w | w
    · exact absurd (by rw [mi, mj, e]) (hn i j (by rw [List.length_map]; exact li) (by rw [List.length_map]; exact lj) w)
    · exact w
    · exact absurd (by rw [mi, mj, e]) (hn j i (by rw [List.length_map]; exact lj) (by rw [List.length_map]; exact li) w)
theorem va_P_mem {D : va_G} {cl : List vw_C} {ws ws' : va_W} {H : Heap} (h : va_P D cl ws H) (hm : ∀ q, q ∈ ws' → q ∈ ws) : va_P D cl ws' H := by
  intro k q hk
  obtain ⟨j, hj⟩ := List.getElem?_of_mem (hm q (List.mem_of_getElem? hk))
  exact h j q hj
theorem va_D_perm {A : Nat → Prop} {ws ws' : va_W} (h : va_D A ws) (hp : ws'.Perm ws) : va_D A ws' := by
  rw [va_D_nd] at h ⊢
  exact ⟨(hp.map Prod.fst).nodup_iff.mpr h.1, fun q hq => h.2 q (hp.mem_iff.mp hq)⟩
theorem pl_cong {L : List Nat} {f g : Nat → va_E} (h : ∀ a, a ∈ L → f a = g a) : va_pl L f = va_pl L g := List.map_congr_left (fun a ha => by rw [h a ha])
/-- two pools become one -/
theorem pl_merge {D : va_G} {cl : List vw_C} {A : Nat → Prop} {wr rx : va_W} {L1 L2 : List Nat} {f1 f2 : Nat → va_E} {H : Heap} (hP : va_P D cl ((wr ++ (rx ++ va_pl L2 f2)) ++ va_pl L1 f1) H) (hD : va_D A ((wr ++ (rx ++ va_pl L2 f2)) ++ va_pl L1 f1)) : ∃ f : Nat → va_E, (∀ a, a ∈ L1 → f a = f1 a) ∧ (∀ a, a ∈ L2 → f a = f2 a) ∧ va_P D cl ((wr ++ rx) ++ va_pl (L1 ++ L2) f) H ∧ va_D A ((wr ++ rx) ++ va_pl (L1 ++ L2) f) := by
  have hdis : ∀ a, a ∈ L2 → a ∉ L1 := by
    intro a h2 h1
    have hn := (va_D_nd.mp hD).1
    rw [List.map_append] at hn
    have := (List.nodup_append.mp hn).2.2
    refine this a ?_ a ?_ rfl
    · rw [List.map_append, List.map_append]
      exact List.mem_append_right _ (List.mem_append_right _ (by unfold va_pl; rw [List.map_map]; exact List.mem_map.mpr ⟨a, h2, rfl⟩))
    · unfold va_pl; rw [List.map_map]; exact List.mem_map.mpr ⟨a, h1, rfl⟩
  refine ⟨fun a => if a ∈ L1 then f1 a else f2 a, fun a h => if_pos h, fun a h => if_neg (hdis a h), ?_⟩
  have e : va_pl (L1 ++ L2) (fun a => if a ∈ L1 then f1 a else f2 a) = va_pl L1 f1 ++ va_pl L2 f2 := by
    rw [show va_pl (L1 ++ L2) (fun a => if a ∈ L1 then f1 a else f2 a) = va_pl L1 (fun a => if a ∈ L1 then f1 a else f2 a) ++ va_pl L2 (fun a => if a ∈ L1 then f1 a else f2 a) from List.map_append]
    rw [pl_cong (f := fun a => if a ∈ L1 then f1 a else f2 a) (g := f1) (fun a h => if_pos h), pl_cong (L := L2) (f := fun a => if a ∈ L1 then f1 a else f2 a) (g := f2) (fun a h => if_neg (hdis a h))]
  rw [e]
  have hp : ((wr ++ rx) ++ (va_pl L1 f1 ++ va_pl L2 f2)).Perm ((wr ++ (rx ++ va_pl L2 f2)) ++ va_pl L1 f1) := by
    have a1 : (wr ++ (rx ++ va_pl L2 f2)) ++ va_pl L1 f1 = (wr ++ rx) ++ (va_pl L2 f2 ++ va_pl L1 f1) := by simp only [List.append_assoc]
    rw [a1]
    exact List.Perm.append_left _ List.perm_append_comm
  exact ⟨va_P_mem hP (fun q hq => hp.mem_iff.mp hq), va_D_perm hD hp⟩
theorem na_of {wc : va_W} {H : Heap} {b q : Nat} (h : ∀ (k : Nat) (e : va_E), wc[k]? = some (q, e) → q < b) (h1 : b ≤ q) (h2 : q < H.size) : ¬ va_A wc H.size q := by
  intro z
  rcases z with ⟨k, e, hk⟩ | z
  · have := h k e hk; omega
  · omega
theorem mem4 {a1 a2 a3 a4 q k : Nat} {e1 e2 e3 e4 e : va_E} (h : ([(a1, e1), (a2, e2), (a3, e3), (a4, e4)] : va_W)[k]? = some (q, e)) : q = a1 ∨ q = a2 ∨ q = a3 ∨ q = a4 := by
  have := List.mem_of_getElem? h
  simp only [List.mem_cons, Prod.mk.injEq, List.not_mem_nil, or_false] at this
  rcases this with ⟨h, -⟩ | ⟨h, -⟩ | ⟨h, -⟩ | ⟨h, -⟩
  · exact Or.inl h
  · exact Or.inr (Or.inl h)
  · exact Or.inr (Or.inr (Or.inl h))
  · exact Or.inr (Or.inr (Or.inr h))
theorem stq_1 {z z' : Int} {g g' : Nat → Option Nat} {q : Nat} {i : Int32} {kd nb fr to : Int32} (hi : 0 ≤ i.toInt) (hz : z = i.toInt) (hz' : z' = z + 1) (eg : g' = va_up g i.toNatClampNeg (some q)) (hk : kd.toInt = 1 → 0 ≤ nb.toInt ∧ nb.toInt ≤ 19) : stq z z' g g' [q] (fun _ => .inr (4, [.int kd, .int nb, .int fr, .int to])) := by
  have e : i.toNatClampNeg = i.toInt.toNat := rfl
  have hs : stepOk [q] (fun _ => .inr (4, [.int kd, .int nb, .int fr, .int to])) q := ⟨List.mem_singleton.mpr rfl, kd, nb, fr, to, rfl, hk⟩
  refine ⟨by omega, fun j hj => ?_, fun j h1 h2 => ⟨q, ?_, hs⟩, fun a ha => ?_⟩
  · rw [eg, va_up_ne _ _ (by omega)]
  · rw [eg, show j = i.toNatClampNeg by omega, va_up_self]
  · rw [List.mem_singleton.mp ha]; exact hs

/-! the class's reader and the pure one -/
def advI (g : Int → Int) (z : Int) (p be lt dg : Int32) : Prop := (¬ lt.toInt = 0 → tke g z p.toInt = rl g 97 122 be.toInt) ∧ (¬ dg.toInt = 0 → tke g z p.toInt = rl g 48 57 be.toInt) ∧ (lt.toInt = 0 → dg.toInt = 0 → tke g z p.toInt = be.toInt) ∧ (lt.toInt = 0 ∨ dg.toInt = 0)
theorem adv_start {f : Nat → Int32} {z p be lt dg : Int32} (hz : p.toInt ≤ z.toInt) (hb : be.toInt = min (p.toInt + 1) z.toInt) (h1 : ¬ lt.toInt = 0 ↔ (97 ≤ tpe f z p.toInt ∧ tpe f z p.toInt ≤ 122)) (h2 : ¬ dg.toInt = 0 ↔ (48 ≤ tpe f z p.toInt ∧ tpe f z p.toInt ≤ 57)) : advI (tpe f z) z.toInt p be lt dg := by
  by_cases q : p.toInt < z.toInt
  · have hb1 : be.toInt = p.toInt + 1 := by omega
    refine ⟨fun h => ?_, fun h => ?_, fun h3 h4 => ?_, by omega⟩
    · rw [tke_let q (h1.mp h), hb1]
    · rw [tke_dig q (h2.mp h), hb1]
    · rw [tke_one q (fun w => absurd h3 (h1.mpr w)) (fun w => absurd h4 (h2.mpr w)), hb1]
  · have e0 : tpe f z p.toInt = 0 := tp_out (by omega)
    rw [e0] at h1 h2
    have hl : lt.toInt = 0 := by omega
    have hd : dg.toInt = 0 := by omega
    refine ⟨fun h => absurd hl h, fun h => absurd hd h, fun _ _ => ?_, Or.inl hl⟩
    rw [tke_out q]; omega
theorem adv_back {g : Int → Int} {z : Int} {p be be2 lt dg : Int32} (h : advI g z p be lt dg) (hs : (¬ lt.toInt = 0 ∧ 97 ≤ g be.toInt ∧ g be.toInt ≤ 122) ∨ (¬ dg.toInt = 0 ∧ 48 ≤ g be.toInt ∧ g be.toInt ≤ 57)) (hk : be.toInt < 200) (h2 : be2.toInt = be.toInt + 1) : advI g z p be2 lt dg := by
  obtain ⟨a1, a2, a3, a4⟩ := h
  rcases hs with ⟨q1, q2⟩ | ⟨q1, q2⟩
  · refine ⟨fun w => ?_, fun w => by exfalso; omega, fun w => absurd w q1, a4⟩
    rw [h2, ← rl_step q2 hk]; exact a1 w
  · refine ⟨fun w => by exfalso; omega, fun w => ?_, fun _ w => absurd w q1, a4⟩
    rw [h2, ← rl_step q2 hk]; exact a2 w
theorem adv_end {f : Nat → Int32} {z p be lt dg : Int32} (h : advI (tpe f z) z.toInt p be lt dg) (hx : be.toInt < z.toInt → ¬ ((¬ lt.toInt = 0 ∧ 97 ≤ tpe f z be.toInt ∧ tpe f z be.toInt ≤ 122) ∨ (¬ dg.toInt = 0 ∧ 48 ≤ tpe f z be.toInt ∧ tpe f z be.toInt ≤ 57))) : tke (tpe f z) z.toInt p.toInt = be.toInt := by
  have hx' : ¬ ((¬ lt.toInt = 0 ∧ 97 ≤ tpe f z be.toInt ∧ tpe f z be.toInt ≤ 122) ∨ (¬ dg.toInt = 0 ∧ 48 ≤ tpe f z be.toInt ∧ tpe f z be.toInt ≤ 57)) := by
    by_cases q : be.toInt < z.toInt
    · exact hx q
    · rw [tp_out (by omega)]; omega
  obtain ⟨a1, a2, a3, a4⟩ := h
  by_cases q1 : lt.toInt = 0
  · by_cases q2 : dg.toInt = 0
    · exact a3 q1 q2
    · rw [a2 q2]; exact rl_done (fun w => hx' (Or.inr ⟨q2, w⟩))
  · rw [a1 q1]; exact rl_done (fun w => hx' (Or.inl ⟨q1, w⟩))
def scs (i : Nat) : List Int := (sbyt i).map Int32.toInt
theorem scs_get (i j : Nat) : (scs i).getD j 0 = ((sbyt i).getD j 0).toInt := by
  unfold scs
  rw [List.getD_eq_getElem?_getD, List.getD_eq_getElem?_getD, List.getElem?_map]
  cases (sbyt i)[j]? with
  | none => decide
  | some x => rfl
theorem scs_len (i : Nat) : (scs i).length = slen i := by
  unfold scs slen
  exact List.length_map ..
theorem sbyt_rng : ∀ i, i < 17 → ∀ j, j < slen i → 1 ≤ ((sbyt i).getD j 0).toInt ∧ ((sbyt i).getD j 0).toInt ≤ 127 := by decide +kernel
theorem at_len {g : Int → Int} {i : Nat} {p e : Int} (h : ¬ e - p = (slen i : Int)) : ¬ tw g (scs i) p e = true := fun q => h (by have := (tw_iff.mp q).1; rw [scs_len] at this; omega)
theorem at_step {f : Nat → Int32} {i : Nat} {z p k k2 ix x c : Int32} (h : ∀ j : Nat, (j : Int) < k.toInt → tpe f z (p.toInt + j) = (scs i).getD j 0) (h0 : 0 ≤ k.toInt) (hp : 0 ≤ p.toInt) (hi : i < 17) (hk : k.toInt < (slen i : Int)) (hix : ix.toInt = p.toInt + k.toInt) (hz : ix.toInt < z.toInt) (ex : x = f ix.toNatClampNeg) (ec : c = (sbyt i).getD k.toNatClampNeg 0) (e : x.toInt = c.toInt) (h2 : k2.toInt = k.toInt + 1) : ∀ j : Nat, (j : Int) < k2.toInt → tpe f z (p.toInt + j) = (scs i).getD j 0 := by
  intro j hj
  by_cases q : (j : Int) < k.toInt
  · exact h j q
  · have ej : j = k.toNatClampNeg := by have : k.toNatClampNeg = k.toInt.toNat := rfl; omega
    have hr := sbyt_rng i hi j (by omega)
    rw [scs_get, ej, ← ec, show p.toInt + ((k.toNatClampNeg : Nat) : Int) = ix.toInt by have : k.toNatClampNeg = k.toInt.toNat := rfl; omega]
    rw [ej, ← ec] at hr
    refine (tp_eq (by omega) hr.1 hr.2).mpr ⟨hz, ?_⟩
    rw [← ex]; exact e
theorem at_no {f : Nat → Int32} {i : Nat} {z p be k ix x c : Int32} (h0 : 0 ≤ k.toInt) (hp : 0 ≤ p.toInt) (hi : i < 17) (hk : k.toInt < (slen i : Int)) (hix : ix.toInt = p.toInt + k.toInt) (ex : x = f ix.toNatClampNeg) (ec : c = (sbyt i).getD k.toNatClampNeg 0) (ne : ¬ x.toInt = c.toInt) : ¬ tw (tpe f z) (scs i) p.toInt be.toInt = true := by
  intro q
  have ek : k.toNatClampNeg = k.toInt.toNat := rfl
  have hr := sbyt_rng i hi k.toNatClampNeg (by omega)
  have := (tw_iff.mp q).2 k.toNatClampNeg (by rw [scs_len]; omega)
  rw [scs_get, ← ec, show p.toInt + ((k.toNatClampNeg : Nat) : Int) = ix.toInt by omega] at this
  rw [← ec] at hr
  have h9 := ((tp_eq (by omega) hr.1 hr.2).mp this).2
  rw [← ex] at h9
  exact ne h9
theorem at_yes {g : Int → Int} {i : Nat} {p e k : Int} (h : ∀ j : Nat, (j : Int) < k → g (p + j) = (scs i).getD j 0) (he : e - p = (slen i : Int)) (hk : (slen i : Int) ≤ k) : tw g (scs i) p e = true := tw_iff.mpr ⟨by rw [scs_len]; omega, fun j hj => h j (by rw [scs_len] at hj; omega)⟩
/-- a word that is wanted: taken, or a fault -/
def tkR (g : Int → Int) (z : Int) (cs : List Int) (p e : Int) (ok : Prop) (p' e' fl : Int) : Prop := (ok → tw g cs p e = true ∧ p' = sk g e ∧ e' = tke g z (sk g e)) ∧ (¬ ok → ¬ tw g cs p e = true ∧ fl = p)
theorem tk_ok {g : Int → Int} {z : Int} {cs : List Int} {p e p' e' fl : Int} {ok : Prop} {k : Int → Int → RS} (h : tkR g z cs p e ok p' e' fl) (ho : ok) : ptak g z cs p e k = k p' e' := by
  obtain ⟨h1, h3, h4⟩ := h.1 ho
  rw [ptak_ok h1, ← h4, ← h3]
theorem tk_no {g : Int → Int} {z : Int} {cs : List Int} {p e p' e' fl : Int} {ok : Prop} {k : Int → Int → RS} (h : tkR g z cs p e ok p' e' fl) (ho : ¬ ok) : ptak g z cs p e k = .inl fl := by
  obtain ⟨h1, h2⟩ := h.2 ho
  rw [ptak_no h1, ← h2]
/-- the class's number: n, up to i -/
def tnI (g : Int → Int) (p i n : Int32) : Prop := (n.toInt < 1000001 → n.toInt = dv g p.toInt (i.toInt - p.toInt).toNat) ∧ (1000001 ≤ n.toInt → 1000001 ≤ dv g p.toInt (i.toInt - p.toInt).toNat)
theorem tn_0 {g : Int → Int} {p i n : Int32} (hk : i.toInt = p.toInt) (hv : n.toInt = 0) : tnI g p i n := by
  unfold tnI
  rw [show (i.toInt - p.toInt).toNat = 0 by omega]
  exact ⟨fun _ => hv, fun h => by omega⟩
theorem tn_s {f : Nat → Int32} {p i i2 z x n n2 : Int32} (h : tnI (tpe f z) p i n) (h0 : 0 ≤ p.toInt) (hpi : p.toInt ≤ i.toInt) (hiz : i.toInt < z.toInt) (h2 : i2.toInt = i.toInt + 1) (hv : n.toInt < 1000001) (ex : x = f i.toNatClampNeg) (hx : 48 ≤ x.toInt ∧ x.toInt ≤ 57) (hv2 : n2.toInt = 10 * n.toInt + x.toInt - 48) : tnI (tpe f z) p i2 n2 := by
  have e1 : dv (tpe f z) p.toInt (i2.toInt - p.toInt).toNat = n2.toInt := by
    rw [show (i2.toInt - p.toInt).toNat = (i.toInt - p.toInt).toNat + 1 by omega]
    show 10 * dv (tpe f z) p.toInt (i.toInt - p.toInt).toNat + (tpe f z (p.toInt + ((i.toInt - p.toInt).toNat : Nat)) - 48) = _
    rw [dig_at h0 hpi hiz ex hx, ← h.1 hv]
    omega
  unfold tnI
  rw [e1]
  exact ⟨fun _ => rfl, fun h => h⟩
theorem tn_bad {f : Nat → Int32} {p e i n z : Int32} {mx : Int} (ht : tokOK f p e z) (h0 : 0 ≤ p.toInt) (he : e.toInt ≤ z.toInt) (h : (48 ≤ tpe f z p.toInt ∧ tpe f z p.toInt ≤ 57) → tnI (tpe f z) p i n) (hi : p.toInt ≤ i.toInt) (hx : e.toInt ≤ i.toInt ∨ 1000001 ≤ n.toInt) (hie : i.toInt ≤ e.toInt) (hm : mx ≤ 1000000) (hn : mx < n.toInt) : ¬ nOK (tpe f z) mx p.toInt e.toInt := by
  intro q
  have h1 := h q.1
  have h2 := dv_mono (g := tpe f z) (p := p.toInt) (n := (i.toInt - p.toInt).toNat) (m := (e.toInt - p.toInt).toNat) (by omega) (fun k hk => (tok_g ht h0 he q.1 k hk).1)
  have h3 := q.2.2
  by_cases w : n.toInt < 1000001
  · have h4 := h1.1 w
    have h5 : i.toInt = e.toInt := by omega
    rw [h5] at h4
    omega
  · have h4 := h1.2 (by omega)
    omega
theorem tn_ok {g : Int → Int} {p e i n : Int32} {mx : Int} (h : tnI g p i n) (hd : 48 ≤ g p.toInt ∧ g p.toInt ≤ 57) (hie : i.toInt = e.toInt) (hn : n.toInt ≤ mx) (hm : mx ≤ 1000000) (h0 : 0 ≤ n.toInt) : nOK g mx p.toInt e.toInt ∧ n.toInt = dv g p.toInt (e.toInt - p.toInt).toNat := by
  have h4 := h.1 (by omega)
  rw [hie] at h4
  exact ⟨⟨hd, by omega, by omega⟩, h4⟩

theorem scs_0 : scs 0 = [43] := rfl
theorem scs_1 : scs 1 = [45] := rfl
theorem scs_2 : scs 2 = [42] := rfl
theorem scs_3 : scs 3 = [47] := rfl
theorem scs_4 : scs 4 = wElse := rfl
theorem scs_5 : scs 5 = [40] := rfl
theorem scs_6 : scs 6 = [41] := rfl
theorem scs_7 : scs 7 = wFrom := rfl
theorem scs_8 : scs 8 = wTo := rfl
theorem scs_9 : scs 9 = wAhead := rfl
theorem scs_10 : scs 10 = wTrait := rfl
theorem scs_11 : scs 11 = wLast := rfl
theorem scs_12 : scs 12 = wAge := rfl
theorem scs_13 : scs 13 = wCount := rfl
theorem scs_14 : scs 14 = wSum := rfl
theorem scs_15 : scs 15 = wLeast := rfl
theorem scs_16 : scs 16 = wMost := rfl

set_option maxHeartbeats 8000000 in
set_option maxRecDepth 100000 in
theorem k_X2_isLetterAt (l : Launch) (dC : Nat → ClassId) (dI : Nat → Nat → Nat) (cA : Nat → ClassId) (sz : Nat) (ax : Nat → Nat) (xSz : Int32) (xPl : Int32) (xBe : Int32) (xRt : Int32) (xRf : Int32) (xRd : Int32) (xLk : Int32) (xTz : Int32) (gB : Nat → Int32) (a : Int32) (i_xSz : 0 ≤ xSz.toInt ∧ xSz.toInt ≤ 200) (i_xPl : 0 ≤ xPl.toInt ∧ xPl.toInt ≤ 200) (i_xBe : 0 ≤ xBe.toInt ∧ xBe.toInt ≤ 200) (i_xRt : 0 ≤ xRt.toInt ∧ xRt.toInt ≤ 20) (i_xTz : 0 ≤ xTz.toInt ∧ xTz.toInt ≤ 200) (i_gB : inB 0 255 200 gB) (ha : 0 ≤ a.toInt ∧ a.toInt ≤ 200) : Met l yX2_isLetterAt wsX2_isLetterAt ({ frames := 0, cells := 0, slots := 0, locals := 0 }) (va_Pc [.ref (ax 13), .int a] (fun U => U.heap.size = sz ∧ va_P (dC, dI) vwCl [((ax 13), .inr (2, [.ref (ax 11), .ref (ax 14), .int xSz, .int xPl, .int xBe, .int xRt, .int xRf, .int xRd, .int xLk])), ((ax 11), .inr (5, [.ref (ax 12), .int xTz])), ((ax 12), .inl (cA 0, 200, .inl gB))] U.heap ∧ va_K (dC, dI) vwCl (tyL cA) U ∧ va_D (fun _ => True) [((ax 13), .inr (2, [.ref (ax 11), .ref (ax 14), .int xSz, .int xPl, .int xBe, .int xRt, .int xRf, .int xRd, .int xLk])), ((ax 11), .inr (5, [.ref (ax 12), .int xTz])), ((ax 12), .inl (cA 0, 200, .inl gB))] ∧ nw_ok U)) (va_Qi (fun (r : Int32) (_ : Unit) => ((0 ≤ r.toInt ∧ r.toInt ≤ 1) ∧ (¬ r.toInt = 0 → a.toInt < xTz.toInt ∧ 97 ≤ (gB a.toNatClampNeg).toInt ∧ (gB a.toNatClampNeg).toInt ≤ 122) ∧ (r.toInt = 0 → a.toInt < xTz.toInt → ¬ (97 ≤ (gB a.toNatClampNeg).toInt ∧ (gB a.toNatClampNeg).toInt ≤ 122))) ∧ ((¬ r.toInt = 0 ↔ (97 ≤ tpe gB xTz a.toInt ∧ tpe gB xTz a.toInt ≤ 122)))) (fun (_ : Unit) (t : State) => va_P (dC, dI) vwCl [((ax 13), .inr (2, [.ref (ax 11), .ref (ax 14), .int xSz, .int xPl, .int xBe, .int xRt, .int xRf, .int xRd, .int xLk])), ((ax 11), .inr (5, [.ref (ax 12), .int xTz])), ((ax 12), .inl (cA 0, 200, .inl gB))] t.heap ∧ va_D (va_A [((ax 13), .inr (2, [.ref (ax 11), .ref (ax 14), .int xSz, .int xPl, .int xBe, .int xRt, .int xRf, .int xRd, .int xLk])), ((ax 11), .inr (5, [.ref (ax 12), .int xTz])), ((ax 12), .inl (cA 0, 200, .inl gB))] sz) [((ax 13), .inr (2, [.ref (ax 11), .ref (ax 14), .int xSz, .int xPl, .int xBe, .int xRt, .int xRf, .int xRd, .int xLk])), ((ax 11), .inr (5, [.ref (ax 12), .int xTz])), ((ax 12), .inl (cA 0, 200, .inl gB))]) (va_A [((ax 13), .inr (2, [.ref (ax 11), .ref (ax 14), .int xSz, .int xPl, .int xBe, .int xRt, .int xRf, .int xRd, .int xLk])), ((ax 11), .inr (5, [.ref (ax 12), .int xTz])), ((ax 12), .inl (cA 0, 200, .inl gB))] sz)) 0 0 (va_A [((ax 13), .inr (2, [.ref (ax 11), .ref (ax 14), .int xSz, .int xPl, .int xBe, .int xRt, .int xRf, .int xRd, .int xLk])), ((ax 11), .inr (5, [.ref (ax 12), .int xTz])), ((ax 12), .inl (cA 0, 200, .inl gB))] sz) := by
  sorry
set_option maxHeartbeats 8000000 in
set_option maxRecDepth 100000 in
theorem k_X2_isDigitAt (l : Launch) (dC : Nat → ClassId) (dI : Nat → Nat → Nat) (cA : Nat → ClassId) (sz : Nat) (ax : Nat → Nat) (xSz : Int32) (xPl : Int32) (xBe : Int32) (xRt : Int32) (xRf : Int32) (xRd : Int32) (xLk : Int32) (xTz : Int32) (gB : Nat → Int32) (a : Int32) (i_xSz : 0 ≤ xSz.toInt ∧ xSz.toInt ≤ 200) (i_xPl : 0 ≤ xPl.toInt ∧ xPl.toInt ≤ 200) (i_xBe : 0 ≤ xBe.toInt ∧ xBe.toInt ≤ 200) (i_xRt : 0 ≤ xRt.toInt ∧ xRt.toInt ≤ 20) (i_xTz : 0 ≤ xTz.toInt ∧ xTz.toInt ≤ 200) (i_gB : inB 0 255 200 gB) (ha : 0 ≤ a.toInt ∧ a.toInt ≤ 200) : Met l yX2_isDigitAt wsX2_isDigitAt ({ frames := 0, cells := 0, slots := 0, locals := 0 }) (va_Pc [.ref (ax 13), .int a] (fun U => U.heap.size = sz ∧ va_P (dC, dI) vwCl [((ax 13), .inr (2, [.ref (ax 11), .ref (ax 14), .int xSz, .int xPl, .int xBe, .int xRt, .int xRf, .int xRd, .int xLk])), ((ax 11), .inr (5, [.ref (ax 12), .int xTz])), ((ax 12), .inl (cA 0, 200, .inl gB))] U.heap ∧ va_K (dC, dI) vwCl (tyL cA) U ∧ va_D (fun _ => True) [((ax 13), .inr (2, [.ref (ax 11), .ref (ax 14), .int xSz, .int xPl, .int xBe, .int xRt, .int xRf, .int xRd, .int xLk])), ((ax 11), .inr (5, [.ref (ax 12), .int xTz])), ((ax 12), .inl (cA 0, 200, .inl gB))] ∧ nw_ok U)) (va_Qi (fun (r : Int32) (_ : Unit) => ((0 ≤ r.toInt ∧ r.toInt ≤ 1) ∧ (¬ r.toInt = 0 → a.toInt < xTz.toInt ∧ 48 ≤ (gB a.toNatClampNeg).toInt ∧ (gB a.toNatClampNeg).toInt ≤ 57) ∧ (r.toInt = 0 → a.toInt < xTz.toInt → ¬ (48 ≤ (gB a.toNatClampNeg).toInt ∧ (gB a.toNatClampNeg).toInt ≤ 57))) ∧ ((¬ r.toInt = 0 ↔ (48 ≤ tpe gB xTz a.toInt ∧ tpe gB xTz a.toInt ≤ 57)))) (fun (_ : Unit) (t : State) => va_P (dC, dI) vwCl [((ax 13), .inr (2, [.ref (ax 11), .ref (ax 14), .int xSz, .int xPl, .int xBe, .int xRt, .int xRf, .int xRd, .int xLk])), ((ax 11), .inr (5, [.ref (ax 12), .int xTz])), ((ax 12), .inl (cA 0, 200, .inl gB))] t.heap ∧ va_D (va_A [((ax 13), .inr (2, [.ref (ax 11), .ref (ax 14), .int xSz, .int xPl, .int xBe, .int xRt, .int xRf, .int xRd, .int xLk])), ((ax 11), .inr (5, [.ref (ax 12), .int xTz])), ((ax 12), .inl (cA 0, 200, .inl gB))] sz) [((ax 13), .inr (2, [.ref (ax 11), .ref (ax 14), .int xSz, .int xPl, .int xBe, .int xRt, .int xRf, .int xRd, .int xLk])), ((ax 11), .inr (5, [.ref (ax 12), .int xTz])), ((ax 12), .inl (cA 0, 200, .inl gB))]) (va_A [((ax 13), .inr (2, [.ref (ax 11), .ref (ax 14), .int xSz, .int xPl, .int xBe, .int xRt, .int xRf, .int xRd, .int xLk])), ((ax 11), .inr (5, [.ref (ax 12), .int xTz])), ((ax 12), .inl (cA 0, 200, .inl gB))] sz)) 0 0 (va_A [((ax 13), .inr (2, [.ref (ax 11), .ref (ax 14), .int xSz, .int xPl, .int xBe, .int xRt, .int xRf, .int xRd, .int xLk])), ((ax 11), .inr (5, [.ref (ax 12), .int xTz])), ((ax 12), .inl (cA 0, 200, .inl gB))] sz) := by
  sorry
set_option maxHeartbeats 8000000 in
set_option maxRecDepth 100000 in
theorem k_X2_stop (l : Launch) (dC : Nat → ClassId) (dI : Nat → Nat → Nat) (cA : Nat → ClassId) (sz : Nat) (ax : Nat → Nat) (xSz : Int32) (xPl : Int32) (xBe : Int32) (xRt : Int32) (xRf : Int32) (xRd : Int32) (xLk : Int32) (i_xSz : 0 ≤ xSz.toInt ∧ xSz.toInt ≤ 200) (i_xPl : 0 ≤ xPl.toInt ∧ xPl.toInt ≤ 200) (i_xBe : 0 ≤ xBe.toInt ∧ xBe.toInt ≤ 200) (i_xRt : 0 ≤ xRt.toInt ∧ xRt.toInt ≤ 20)  : Met l yX2_stop wsX2_stop ({ frames := 0, cells := 0, slots := 0, locals := 0 }) (va_Pc [.ref (ax 13)] (fun U => U.heap.size = sz ∧ va_P (dC, dI) vwCl [((ax 13), .inr (2, [.ref (ax 11), .ref (ax 14), .int xSz, .int xPl, .int xBe, .int xRt, .int xRf, .int xRd, .int xLk]))] U.heap ∧ va_K (dC, dI) vwCl (tyL cA) U ∧ va_D (fun _ => True) [((ax 13), .inr (2, [.ref (ax 11), .ref (ax 14), .int xSz, .int xPl, .int xBe, .int xRt, .int xRf, .int xRd, .int xLk]))] ∧ nw_ok U)) (va_Qi (fun (r : Int32) (u : Int32) => (r = 0) ∧ (u.toInt = xPl.toInt)) (fun (u : Int32) (t : State) => va_P (dC, dI) vwCl [((ax 13), .inr (2, [.ref (ax 11), .ref (ax 14), .int xSz, .int xPl, .int xBe, .int xRt, .int u, .int xRd, .int xLk]))] t.heap ∧ va_D (va_A [((ax 13), .inr (2, [.ref (ax 11), .ref (ax 14), .int xSz, .int xPl, .int xBe, .int xRt, .int xRf, .int xRd, .int xLk]))] sz) [((ax 13), .inr (2, [.ref (ax 11), .ref (ax 14), .int xSz, .int xPl, .int xBe, .int xRt, .int u, .int xRd, .int xLk]))]) (va_A [((ax 13), .inr (2, [.ref (ax 11), .ref (ax 14), .int xSz, .int xPl, .int xBe, .int xRt, .int xRf, .int xRd, .int xLk]))] sz)) 0 0 (va_A [((ax 13), .inr (2, [.ref (ax 11), .ref (ax 14), .int xSz, .int xPl, .int xBe, .int xRt, .int xRf, .int xRd, .int xLk]))] sz) := by
  sorry
set_option maxHeartbeats 8000000 in
set_option maxRecDepth 100000 in
theorem k_X2_advance (l : Launch) (dC : Nat → ClassId) (dI : Nat → Nat → Nat) (cA : Nat → ClassId) (sz : Nat) (ax : Nat → Nat) (xSz : Int32) (xPl : Int32) (xBe : Int32) (xRt : Int32) (xRf : Int32) (xRd : Int32) (xLk : Int32) (xTz : Int32) (gB : Nat → Int32) (i_xSz : 0 ≤ xSz.toInt ∧ xSz.toInt ≤ 200) (i_xPl : 0 ≤ xPl.toInt ∧ xPl.toInt ≤ 200) (i_xBe : 0 ≤ xBe.toInt ∧ xBe.toInt ≤ 200) (i_xRt : 0 ≤ xRt.toInt ∧ xRt.toInt ≤ 20) (i_xTz : 0 ≤ xTz.toInt ∧ xTz.toInt ≤ 200) (i_gB : inB 0 255 200 gB) (hbe : xBe.toInt ≤ xTz.toInt) : Met l yX2_advance wsX2_advance ({ frames := 1, cells := 0, slots := 0, locals := 23 }) (va_Pc [.ref (ax 13)] (fun U => U.heap.size = sz ∧ va_P (dC, dI) vwCl [((ax 13), .inr (2, [.ref (ax 11), .ref (ax 14), .int xSz, .int xPl, .int xBe, .int xRt, .int xRf, .int xRd, .int xLk])), ((ax 11), .inr (5, [.ref (ax 12), .int xTz])), ((ax 12), .inl (cA 0, 200, .inl gB))] U.heap ∧ va_K (dC, dI) vwCl (tyL cA) U ∧ va_D (fun _ => True) [((ax 13), .inr (2, [.ref (ax 11), .ref (ax 14), .int xSz, .int xPl, .int xBe, .int xRt, .int xRf, .int xRd, .int xLk])), ((ax 11), .inr (5, [.ref (ax 12), .int xTz])), ((ax 12), .inl (cA 0, 200, .inl gB))] ∧ nw_ok U)) (va_Qv (fun (u : Int32 × Int32) => (0 ≤ u.1.toInt ∧ u.1.toInt ≤ 200) ∧ (0 ≤ u.2.toInt ∧ u.2.toInt ≤ 200) ∧ (xBe.toInt ≤ u.1.toInt ∧ u.1.toInt ≤ u.2.toInt ∧ u.2.toInt ≤ xTz.toInt ∧ (u.1.toInt < xTz.toInt → u.1.toInt < u.2.toInt)) ∧ (tokOK gB u.1 u.2 xTz) ∧ (u.1.toInt = sk (tpe gB xTz) xBe.toInt ∧ u.2.toInt = tke (tpe gB xTz) xTz.toInt (sk (tpe gB xTz) xBe.toInt))) (fun (u : Int32 × Int32) (t : State) => va_P (dC, dI) vwCl [((ax 13), .inr (2, [.ref (ax 11), .ref (ax 14), .int xSz, .int u.1, .int u.2, .int xRt, .int xRf, .int xRd, .int xLk])), ((ax 11), .inr (5, [.ref (ax 12), .int xTz])), ((ax 12), .inl (cA 0, 200, .inl gB))] t.heap ∧ va_D (va_A [((ax 13), .inr (2, [.ref (ax 11), .ref (ax 14), .int xSz, .int xPl, .int xBe, .int xRt, .int xRf, .int xRd, .int xLk])), ((ax 11), .inr (5, [.ref (ax 12), .int xTz])), ((ax 12), .inl (cA 0, 200, .inl gB))] sz) [((ax 13), .inr (2, [.ref (ax 11), .ref (ax 14), .int xSz, .int u.1, .int u.2, .int xRt, .int xRf, .int xRd, .int xLk])), ((ax 11), .inr (5, [.ref (ax 12), .int xTz])), ((ax 12), .inl (cA 0, 200, .inl gB))]) (va_A [((ax 13), .inr (2, [.ref (ax 11), .ref (ax 14), .int xSz, .int xPl, .int xBe, .int xRt, .int xRf, .int xRd, .int xLk])), ((ax 11), .inr (5, [.ref (ax 12), .int xTz])), ((ax 12), .inl (cA 0, 200, .inl gB))] sz)) 0 0 (va_A [((ax 13), .inr (2, [.ref (ax 11), .ref (ax 14), .int xSz, .int xPl, .int xBe, .int xRt, .int xRf, .int xRd, .int xLk])), ((ax 11), .inr (5, [.ref (ax 12), .int xTz])), ((ax 12), .inl (cA 0, 200, .inl gB))] sz) := by
  sorry
set_option maxHeartbeats 8000000 in
set_option maxRecDepth 100000 in
theorem k_X2_isAt (l : Launch) (dC : Nat → ClassId) (dI : Nat → Nat → Nat) (cA : Nat → ClassId) (sz : Nat) (ax : Nat → Nat) (xSz : Int32) (xPl : Int32) (xBe : Int32) (xRt : Int32) (xRf : Int32) (xRd : Int32) (xLk : Int32) (xTz : Int32) (gB : Nat → Int32) (adK : Nat → Nat) (adV : Nat → Nat) (i : Nat) (i_xSz : 0 ≤ xSz.toInt ∧ xSz.toInt ≤ 200) (i_xPl : 0 ≤ xPl.toInt ∧ xPl.toInt ≤ 200) (i_xBe : 0 ≤ xBe.toInt ∧ xBe.toInt ≤ 200) (i_xRt : 0 ≤ xRt.toInt ∧ xRt.toInt ≤ 20) (i_xTz : 0 ≤ xTz.toInt ∧ xTz.toInt ≤ 200) (i_gB : inB 0 255 200 gB) (hi : i < 17) (hbe : xPl.toInt ≤ xBe.toInt ∧ xBe.toInt ≤ xTz.toInt) : Met l yX2_isAt wsX2_isAt ({ frames := 4, cells := 0, slots := 0, locals := 85 }) (va_Pc [.ref (ax 13), .ref (adK i)] (fun U => U.heap.size = sz ∧ va_P (dC, dI) vwCl [((ax 13), .inr (2, [.ref (ax 11), .ref (ax 14), .int xSz, .int xPl, .int xBe, .int xRt, .int xRf, .int xRd, .int xLk])), ((ax 11), .inr (5, [.ref (ax 12), .int xTz])), ((ax 12), .inl (cA 0, 200, .inl gB))] U.heap ∧ va_K (dC, dI) vwCl (tyL cA) U ∧ va_D (fun _ => True) [((ax 13), .inr (2, [.ref (ax 11), .ref (ax 14), .int xSz, .int xPl, .int xBe, .int xRt, .int xRf, .int xRd, .int xLk])), ((ax 11), .inr (5, [.ref (ax 12), .int xTz])), ((ax 12), .inl (cA 0, 200, .inl gB))] ∧ st_ok adK adV (va_A [((ax 13), .inr (2, [.ref (ax 11), .ref (ax 14), .int xSz, .int xPl, .int xBe, .int xRt, .int xRf, .int xRd, .int xLk])), ((ax 11), .inr (5, [.ref (ax 12), .int xTz])), ((ax 12), .inl (cA 0, 200, .inl gB))] sz) U)) (va_Qi (fun (r : Int32) (_ : Unit) => (0 ≤ r.toInt ∧ r.toInt ≤ 1) ∧ (ITW r (tw (tpe gB xTz) (scs i) xPl.toInt xBe.toInt))) (fun (_ : Unit) (t : State) => va_P (dC, dI) vwCl [((ax 13), .inr (2, [.ref (ax 11), .ref (ax 14), .int xSz, .int xPl, .int xBe, .int xRt, .int xRf, .int xRd, .int xLk])), ((ax 11), .inr (5, [.ref (ax 12), .int xTz])), ((ax 12), .inl (cA 0, 200, .inl gB))] t.heap ∧ va_D (va_A [((ax 13), .inr (2, [.ref (ax 11), .ref (ax 14), .int xSz, .int xPl, .int xBe, .int xRt, .int xRf, .int xRd, .int xLk])), ((ax 11), .inr (5, [.ref (ax 12), .int xTz])), ((ax 12), .inl (cA 0, 200, .inl gB))] sz) [((ax 13), .inr (2, [.ref (ax 11), .ref (ax 14), .int xSz, .int xPl, .int xBe, .int xRt, .int xRf, .int xRd, .int xLk])), ((ax 11), .inr (5, [.ref (ax 12), .int xTz])), ((ax 12), .inl (cA 0, 200, .inl gB))]) (va_A [((ax 13), .inr (2, [.ref (ax 11), .ref (ax 14), .int xSz, .int xPl, .int xBe, .int xRt, .int xRf, .int xRd, .int xLk])), ((ax 11), .inr (5, [.ref (ax 12), .int xTz])), ((ax 12), .inl (cA 0, 200, .inl gB))] sz)) 0 0 (va_A [((ax 13), .inr (2, [.ref (ax 11), .ref (ax 14), .int xSz, .int xPl, .int xBe, .int xRt, .int xRf, .int xRd, .int xLk])), ((ax 11), .inr (5, [.ref (ax 12), .int xTz])), ((ax 12), .inl (cA 0, 200, .inl gB))] sz) := by
  sorry
set_option maxHeartbeats 8000000 in
set_option maxRecDepth 100000 in
theorem k_X2_kindAt (l : Launch) (dC : Nat → ClassId) (dI : Nat → Nat → Nat) (cA : Nat → ClassId) (sz : Nat) (ax : Nat → Nat) (xSz : Int32) (xPl : Int32) (xBe : Int32) (xRt : Int32) (xRf : Int32) (xRd : Int32) (xLk : Int32) (xTz : Int32) (gB : Nat → Int32) (adK : Nat → Nat) (adV : Nat → Nat) (i_xSz : 0 ≤ xSz.toInt ∧ xSz.toInt ≤ 200) (i_xPl : 0 ≤ xPl.toInt ∧ xPl.toInt ≤ 200) (i_xBe : 0 ≤ xBe.toInt ∧ xBe.toInt ≤ 200) (i_xRt : 0 ≤ xRt.toInt ∧ xRt.toInt ≤ 20) (i_xTz : 0 ≤ xTz.toInt ∧ xTz.toInt ≤ 200) (i_gB : inB 0 255 200 gB) (hbe : xPl.toInt ≤ xBe.toInt ∧ xBe.toInt ≤ xTz.toInt) : Met l yX2_kindAt wsX2_kindAt ({ frames := 5, cells := 0, slots := 0, locals := 108 }) (va_Pc [.ref (ax 13)] (fun U => U.heap.size = sz ∧ va_P (dC, dI) vwCl [((ax 13), .inr (2, [.ref (ax 11), .ref (ax 14), .int xSz, .int xPl, .int xBe, .int xRt, .int xRf, .int xRd, .int xLk])), ((ax 11), .inr (5, [.ref (ax 12), .int xTz])), ((ax 12), .inl (cA 0, 200, .inl gB))] U.heap ∧ va_K (dC, dI) vwCl (tyL cA) U ∧ va_D (fun _ => True) [((ax 13), .inr (2, [.ref (ax 11), .ref (ax 14), .int xSz, .int xPl, .int xBe, .int xRt, .int xRf, .int xRd, .int xLk])), ((ax 11), .inr (5, [.ref (ax 12), .int xTz])), ((ax 12), .inl (cA 0, 200, .inl gB))] ∧ st_ok adK adV (va_A [((ax 13), .inr (2, [.ref (ax 11), .ref (ax 14), .int xSz, .int xPl, .int xBe, .int xRt, .int xRf, .int xRd, .int xLk])), ((ax 11), .inr (5, [.ref (ax 12), .int xTz])), ((ax 12), .inl (cA 0, 200, .inl gB))] sz) U)) (va_Qi (fun (r : Int32) (_ : Unit) => (r.toInt = (-1) ∨ (1 ≤ r.toInt ∧ r.toInt ≤ 7)) ∧ (r.toInt = pkind (tpe gB xTz) xPl.toInt xBe.toInt)) (fun (_ : Unit) (t : State) => va_P (dC, dI) vwCl [((ax 13), .inr (2, [.ref (ax 11), .ref (ax 14), .int xSz, .int xPl, .int xBe, .int xRt, .int xRf, .int xRd, .int xLk])), ((ax 11), .inr (5, [.ref (ax 12), .int xTz])), ((ax 12), .inl (cA 0, 200, .inl gB))] t.heap ∧ va_D (va_A [((ax 13), .inr (2, [.ref (ax 11), .ref (ax 14), .int xSz, .int xPl, .int xBe, .int xRt, .int xRf, .int xRd, .int xLk])), ((ax 11), .inr (5, [.ref (ax 12), .int xTz])), ((ax 12), .inl (cA 0, 200, .inl gB))] sz) [((ax 13), .inr (2, [.ref (ax 11), .ref (ax 14), .int xSz, .int xPl, .int xBe, .int xRt, .int xRf, .int xRd, .int xLk])), ((ax 11), .inr (5, [.ref (ax 12), .int xTz])), ((ax 12), .inl (cA 0, 200, .inl gB))]) (va_A [((ax 13), .inr (2, [.ref (ax 11), .ref (ax 14), .int xSz, .int xPl, .int xBe, .int xRt, .int xRf, .int xRd, .int xLk])), ((ax 11), .inr (5, [.ref (ax 12), .int xTz])), ((ax 12), .inl (cA 0, 200, .inl gB))] sz)) 0 0 (va_A [((ax 13), .inr (2, [.ref (ax 11), .ref (ax 14), .int xSz, .int xPl, .int xBe, .int xRt, .int xRf, .int xRd, .int xLk])), ((ax 11), .inr (5, [.ref (ax 12), .int xTz])), ((ax 12), .inl (cA 0, 200, .inl gB))] sz) := by
  sorry
set_option maxHeartbeats 8000000 in
set_option maxRecDepth 100000 in
theorem k_X2_take (l : Launch) (dC : Nat → ClassId) (dI : Nat → Nat → Nat) (cA : Nat → ClassId) (sz : Nat) (ax : Nat → Nat) (xSz : Int32) (xPl : Int32) (xBe : Int32) (xRt : Int32) (xRf : Int32) (xRd : Int32) (xLk : Int32) (xTz : Int32) (gB : Nat → Int32) (adK : Nat → Nat) (adV : Nat → Nat) (i : Nat) (i_xSz : 0 ≤ xSz.toInt ∧ xSz.toInt ≤ 200) (i_xPl : 0 ≤ xPl.toInt ∧ xPl.toInt ≤ 200) (i_xBe : 0 ≤ xBe.toInt ∧ xBe.toInt ≤ 200) (i_xRt : 0 ≤ xRt.toInt ∧ xRt.toInt ≤ 20) (i_xTz : 0 ≤ xTz.toInt ∧ xTz.toInt ≤ 200) (i_gB : inB 0 255 200 gB) (hi : i < 17) (hbe : xPl.toInt ≤ xBe.toInt ∧ xBe.toInt ≤ xTz.toInt) (htk : tokOK gB xPl xBe xTz) : Met l yX2_take wsX2_take ({ frames := 5, cells := 0, slots := 0, locals := 108 }) (va_Pc [.ref (ax 13), .ref (adK i)] (fun U => U.heap.size = sz ∧ va_P (dC, dI) vwCl [((ax 13), .inr (2, [.ref (ax 11), .ref (ax 14), .int xSz, .int xPl, .int xBe, .int xRt, .int xRf, .int xRd, .int xLk])), ((ax 11), .inr (5, [.ref (ax 12), .int xTz])), ((ax 12), .inl (cA 0, 200, .inl gB))] U.heap ∧ va_K (dC, dI) vwCl (tyL cA) U ∧ va_D (fun _ => True) [((ax 13), .inr (2, [.ref (ax 11), .ref (ax 14), .int xSz, .int xPl, .int xBe, .int xRt, .int xRf, .int xRd, .int xLk])), ((ax 11), .inr (5, [.ref (ax 12), .int xTz])), ((ax 12), .inl (cA 0, 200, .inl gB))] ∧ st_ok adK adV (va_A [((ax 13), .inr (2, [.ref (ax 11), .ref (ax 14), .int xSz, .int xPl, .int xBe, .int xRt, .int xRf, .int xRd, .int xLk])), ((ax 11), .inr (5, [.ref (ax 12), .int xTz])), ((ax 12), .inl (cA 0, 200, .inl gB))] sz) U)) (va_Qi (fun (r : Int32) (u : Int32 × Int32 × Int32) => (0 ≤ u.1.toInt ∧ u.1.toInt ≤ 200) ∧ (0 ≤ u.2.1.toInt ∧ u.2.1.toInt ≤ 200) ∧ (u.1.toInt ≤ u.2.1.toInt ∧ u.2.1.toInt ≤ xTz.toInt ∧ (0 ≤ r.toInt ∧ r.toInt ≤ 1)) ∧ (tokOK gB u.1 u.2.1 xTz) ∧ (tkR (tpe gB xTz) xTz.toInt (scs i) xPl.toInt xBe.toInt (¬ r.toInt = 0) u.1.toInt u.2.1.toInt u.2.2.toInt) ∧ ((¬ r.toInt = 0 → u.2.2.toInt = xRf.toInt) ∧ (r.toInt = 0 → 0 ≤ u.2.2.toInt))) (fun (u : Int32 × Int32 × Int32) (t : State) => va_P (dC, dI) vwCl [((ax 13), .inr (2, [.ref (ax 11), .ref (ax 14), .int xSz, .int u.1, .int u.2.1, .int xRt, .int u.2.2, .int xRd, .int xLk])), ((ax 11), .inr (5, [.ref (ax 12), .int xTz])), ((ax 12), .inl (cA 0, 200, .inl gB))] t.heap ∧ va_D (va_A [((ax 13), .inr (2, [.ref (ax 11), .ref (ax 14), .int xSz, .int xPl, .int xBe, .int xRt, .int xRf, .int xRd, .int xLk])), ((ax 11), .inr (5, [.ref (ax 12), .int xTz])), ((ax 12), .inl (cA 0, 200, .inl gB))] sz) [((ax 13), .inr (2, [.ref (ax 11), .ref (ax 14), .int xSz, .int u.1, .int u.2.1, .int xRt, .int u.2.2, .int xRd, .int xLk])), ((ax 11), .inr (5, [.ref (ax 12), .int xTz])), ((ax 12), .inl (cA 0, 200, .inl gB))]) (va_A [((ax 13), .inr (2, [.ref (ax 11), .ref (ax 14), .int xSz, .int xPl, .int xBe, .int xRt, .int xRf, .int xRd, .int xLk])), ((ax 11), .inr (5, [.ref (ax 12), .int xTz])), ((ax 12), .inl (cA 0, 200, .inl gB))] sz)) 0 0 (va_A [((ax 13), .inr (2, [.ref (ax 11), .ref (ax 14), .int xSz, .int xPl, .int xBe, .int xRt, .int xRf, .int xRd, .int xLk])), ((ax 11), .inr (5, [.ref (ax 12), .int xTz])), ((ax 12), .inl (cA 0, 200, .inl gB))] sz) := by
  sorry
set_option maxHeartbeats 8000000 in
set_option maxRecDepth 100000 in
theorem k_X2_takeNumber (l : Launch) (dC : Nat → ClassId) (dI : Nat → Nat → Nat) (cA : Nat → ClassId) (sz : Nat) (ax : Nat → Nat) (xSz : Int32) (xPl : Int32) (xBe : Int32) (xRt : Int32) (xRf : Int32) (xRd : Int32) (xLk : Int32) (xTz : Int32) (gB : Nat → Int32) (mx : Int32) (i_xSz : 0 ≤ xSz.toInt ∧ xSz.toInt ≤ 200) (i_xPl : 0 ≤ xPl.toInt ∧ xPl.toInt ≤ 200) (i_xBe : 0 ≤ xBe.toInt ∧ xBe.toInt ≤ 200) (i_xRt : 0 ≤ xRt.toInt ∧ xRt.toInt ≤ 20) (i_xTz : 0 ≤ xTz.toInt ∧ xTz.toInt ≤ 200) (i_gB : inB 0 255 200 gB) (hbe : xPl.toInt ≤ xBe.toInt ∧ xBe.toInt ≤ xTz.toInt) (htk : tokOK gB xPl xBe xTz) (hmx : (-1) ≤ mx.toInt ∧ mx.toInt ≤ 1000000) : Met l yX2_takeNumber wsX2_takeNumber ({ frames := 2, cells := 0, slots := 0, locals := 45 }) (va_Pc [.ref (ax 13), .int mx] (fun U => U.heap.size = sz ∧ va_P (dC, dI) vwCl [((ax 13), .inr (2, [.ref (ax 11), .ref (ax 14), .int xSz, .int xPl, .int xBe, .int xRt, .int xRf, .int xRd, .int xLk])), ((ax 11), .inr (5, [.ref (ax 12), .int xTz])), ((ax 12), .inl (cA 0, 200, .inl gB))] U.heap ∧ va_K (dC, dI) vwCl (tyL cA) U ∧ va_D (fun _ => True) [((ax 13), .inr (2, [.ref (ax 11), .ref (ax 14), .int xSz, .int xPl, .int xBe, .int xRt, .int xRf, .int xRd, .int xLk])), ((ax 11), .inr (5, [.ref (ax 12), .int xTz])), ((ax 12), .inl (cA 0, 200, .inl gB))] ∧ nw_ok U)) (va_Qi (fun (r : Int32) (u : Int32 × Int32 × Int32) => (0 ≤ u.1.toInt ∧ u.1.toInt ≤ 200) ∧ (0 ≤ u.2.1.toInt ∧ u.2.1.toInt ≤ 200) ∧ (u.1.toInt ≤ u.2.1.toInt ∧ u.2.1.toInt ≤ xTz.toInt ∧ (r.toInt = (-1) ∨ (0 ≤ r.toInt ∧ r.toInt ≤ mx.toInt))) ∧ (tokOK gB u.1 u.2.1 xTz) ∧ (nmR (tpe gB xTz) xTz.toInt mx.toInt xPl.toInt xBe.toInt (¬ r.toInt = (-1)) r.toInt u.1.toInt u.2.1.toInt u.2.2.toInt) ∧ ((¬ r.toInt = (-1) → u.2.2.toInt = xRf.toInt) ∧ (r.toInt = (-1) → 0 ≤ u.2.2.toInt))) (fun (u : Int32 × Int32 × Int32) (t : State) => va_P (dC, dI) vwCl [((ax 13), .inr (2, [.ref (ax 11), .ref (ax 14), .int xSz, .int u.1, .int u.2.1, .int xRt, .int u.2.2, .int xRd, .int xLk])), ((ax 11), .inr (5, [.ref (ax 12), .int xTz])), ((ax 12), .inl (cA 0, 200, .inl gB))] t.heap ∧ va_D (va_A [((ax 13), .inr (2, [.ref (ax 11), .ref (ax 14), .int xSz, .int xPl, .int xBe, .int xRt, .int xRf, .int xRd, .int xLk])), ((ax 11), .inr (5, [.ref (ax 12), .int xTz])), ((ax 12), .inl (cA 0, 200, .inl gB))] sz) [((ax 13), .inr (2, [.ref (ax 11), .ref (ax 14), .int xSz, .int u.1, .int u.2.1, .int xRt, .int u.2.2, .int xRd, .int xLk])), ((ax 11), .inr (5, [.ref (ax 12), .int xTz])), ((ax 12), .inl (cA 0, 200, .inl gB))]) (va_A [((ax 13), .inr (2, [.ref (ax 11), .ref (ax 14), .int xSz, .int xPl, .int xBe, .int xRt, .int xRf, .int xRd, .int xLk])), ((ax 11), .inr (5, [.ref (ax 12), .int xTz])), ((ax 12), .inl (cA 0, 200, .inl gB))] sz)) 0 0 (va_A [((ax 13), .inr (2, [.ref (ax 11), .ref (ax 14), .int xSz, .int xPl, .int xBe, .int xRt, .int xRf, .int xRd, .int xLk])), ((ax 11), .inr (5, [.ref (ax 12), .int xTz])), ((ax 12), .inl (cA 0, 200, .inl gB))] sz) := by
  sorry
