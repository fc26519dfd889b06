theorem fl_a {F a b c : Nat} (h : a + b ≤ c) : F + a + b ≤ F + c := by omega
theorem fl_b {F a c : Nat} (h : a ≤ c) : a ≤ F + c := by omega
theorem fl_c {F a b c : Nat} (h : a + b ≤ c) : a + (F + b) ≤ F + c := by omega
theorem gd_y {a r : Int} (h : (a = (-1) → r = 1) ∧ (¬ a = (-1) → r = 0)) (hr : ¬ r = 0) : a = (-1) := Decidable.byContradiction (fun q => hr (h.2 q))
theorem gd_n {a r : Int} (h : (a = (-1) → r = 1) ∧ (¬ a = (-1) → r = 0)) (hr : r = 0) : ¬ a = (-1) := fun q => by
  have := h.1 q
  omega
theorem sg_y {r : Int} {P : Prop} (h : (0 ≤ r ∧ r ≤ 1) ∧ (¬ r = 0 → P)) (hr : ¬ r = 0) : (0 ≤ r ∧ r ≤ 1) ∧ P := ⟨h.1, h.2 hr⟩
theorem sg_n {r : Int} {P : Prop} (h : (0 ≤ r ∧ r ≤ 1) ∧ (¬ r = 0 → P)) : 0 ≤ r ∧ r ≤ 1 := h.1
theorem rf_y {r f : Int} (h : (¬ r = 0 → f = (-1)) ∧ (r = 0 → 0 ≤ f)) (hr : ¬ r = 0) : f = (-1) := h.1 hr
theorem rf_n {r f : Int} (h : (¬ r = 0 → f = (-1)) ∧ (r = 0 → 0 ≤ f)) (hr : r = 0) : 0 ≤ f := h.2 hr
theorem im7_y {A B C D E F P Q : Prop} (h : A ∧ B ∧ C ∧ D ∧ E ∧ F ∧ (P → Q)) (p : P) : A ∧ B ∧ C ∧ D ∧ E ∧ F ∧ Q := ⟨h.1, h.2.1, h.2.2.1, h.2.2.2.1, h.2.2.2.2.1, h.2.2.2.2.2.1, h.2.2.2.2.2.2 p⟩
theorem im7_n {A B C D E F P Q : Prop} (h : A ∧ B ∧ C ∧ D ∧ E ∧ F ∧ (P → Q)) : A ∧ B ∧ C ∧ D ∧ E ∧ F := ⟨h.1, h.2.1, h.2.2.1, h.2.2.2.1, h.2.2.2.2.1, h.2.2.2.2.2.1⟩
theorem im5_y {A B C D P Q : Prop} (h : A ∧ B ∧ C ∧ D ∧ (P → Q)) (p : P) : A ∧ B ∧ C ∧ D ∧ Q := ⟨h.1, h.2.1, h.2.2.1, h.2.2.2.1, h.2.2.2.2 p⟩
theorem im5_n {A B C D P Q : Prop} (h : A ∧ B ∧ C ∧ D ∧ (P → Q)) : A ∧ B ∧ C ∧ D := ⟨h.1, h.2.1, h.2.2.1, h.2.2.2.1⟩
theorem dg_y {r : Int} {P Q : Prop} (h : (0 ≤ r ∧ r ≤ 1) ∧ (¬ r = 0 → P) ∧ (r = 0 → Q)) (hr : ¬ r = 0) : (0 ≤ r ∧ r ≤ 1) ∧ P := ⟨h.1, h.2.1 hr⟩
theorem dg_n {r : Int} {P Q : Prop} (h : (0 ≤ r ∧ r ≤ 1) ∧ (¬ r = 0 → P) ∧ (r = 0 → Q)) (hr : r = 0) : (0 ≤ r ∧ r ≤ 1) ∧ Q := ⟨h.1, h.2.2 hr⟩
theorem it_y {r : Int} {P : Prop} (h : ¬ r = 0 ↔ P) (hr : ¬ r = 0) : P := h.mp hr
theorem it_n {r : Int} {P : Prop} (h : ¬ r = 0 ↔ P) (hr : r = 0) : ¬ P := fun p => h.mpr p hr
theorem va_pd {D : va_G} {cl : List vw_C} {ws ws' : va_W} {A0 : Nat → Prop} {H : Heap} (hP : va_P D cl ws H) (hD : va_D A0 ws) (is : List Nat) (hn : va_nd is = true) (hs : is.map (fun i => ws[i]?) = ws'.map some) : va_P D cl ws' H ∧ va_D A0 ws' := by
  constructor
  · intro k q hk
    have h1 : (is.map (fun i => ws[i]?))[k]? = some (some q) := by rw [hs, List.getElem?_map, hk]; rfl
    rw [List.getElem?_map] at h1
    cases hi : is[k]? with
    | none => rw [hi] at h1; cases h1
    | some i => rw [hi] at h1; exact hP i q (Option.some.inj h1)
  · exact hD.sub is hn hs
theorem va_pre {D : va_G} {cl : List vw_C} {ws ws' : va_W} {A0 : Nat → Prop} {H0 H : Heap} {locs : List Loc} (hP : va_P D cl ws H) (hD : va_D A0 ws) (hS : va_S A0 H0 H locs) (hA : ∀ q, H0.size ≤ q → A0 q) (is : List Nat) (hn : va_nd is = true) (hs : is.map (fun i => ws[i]?) = ws'.map some) : va_P D cl ws' H ∧ va_D A0 ws' ∧ (∀ q, va_A ws' H.size q → A0 q) ∧ is.map (fun i => ws[i]?) = ws'.map some := ⟨(va_pd hP hD is hn hs).1, (va_pd hP hD is hn hs).2, va_free hD hS hA is hs, hs⟩
