/-! The heap as a partial function from addresses to what lies there: worlds that need no lists, no frame rule. -/
abbrev gh : Type := Nat → Option va_E
def gP (D : va_G) (cl : List vw_C) (G : gh) (H : Heap) : Prop := ∀ (a : Nat) (e : va_E), G a = some e → va_at D cl (a, e) H
def gup (G : gh) (a : Nat) (e : va_E) : gh := fun q => if q = a then some e else G q
def gA (G : gh) (sz : Nat) : Nat → Prop := fun q => G q ≠ none ∨ sz ≤ q
theorem gup_self (G : gh) (a : Nat) (e : va_E) : gup G a e a = some e := by simp [gup]
theorem gup_ne (G : gh) {a q : Nat} (e : va_E) (h : q ≠ a) : gup G a e q = G q := by simp [gup, h]
theorem gup_gup (G : gh) (a : Nat) (e e' : va_E) : gup (gup G a e) a e' = gup G a e' := by
  funext q
  by_cases h : q = a
  · subst h; rw [gup_self, gup_self]
  · rw [gup_ne _ _ h, gup_ne _ _ h, gup_ne _ _ h]
theorem gup_same {G : gh} {a : Nat} {e : va_E} (h : G a = some e) : gup G a e = G := by
  funext q
  by_cases hq : q = a
  · subst hq; rw [gup_self, h]
  · rw [gup_ne _ _ hq]
theorem gP.one {D : va_G} {cl : List vw_C} {G : gh} {H : Heap} (h : gP D cl G H) {a : Nat} {e : va_E} (he : G a = some e) : va_P D cl [(a, e)] H := by
  intro k q hk
  cases k with
  | zero => cases hk; exact h a e he
  | succ k => simp at hk
theorem gP.lt {D : va_G} {cl : List vw_C} {G : gh} {H : Heap} (h : gP D cl G H) {a : Nat} {e : va_E} (he : G a = some e) : a < H.size := (h a e he).lt
theorem gP.put {D : va_G} {cl : List vw_C} {G : gh} {H H1 : Heap} (h : gP D cl G H) {a : Nat} {e : va_E} (he : va_at D cl (a, e) H1) (oq : ∀ q : Nat, q ≠ a → H1[q]? = H[q]?) : gP D cl (gup G a e) H1 := by
  intro q e' hq
  by_cases hqa : q = a
  · subst hqa
    rw [gup_self] at hq
    cases hq
    exact he
  · rw [gup_ne _ _ hqa] at hq
    exact (h q e' hq).kept (oq q hqa)
theorem gP.push {D : va_G} {cl : List vw_C} {G : gh} {H H1 : Heap} (h : gP D cl G H) {e : va_E} (he : va_at D cl (H.size, e) H1) (oq : ∀ q : Nat, q < H.size → H1[q]? = H[q]?) : gP D cl (gup G H.size e) H1 := by
  intro q e' hq
  by_cases hqa : q = H.size
  · subst hqa
    rw [gup_self] at hq
    cases hq
    exact he
  · rw [gup_ne _ _ hqa] at hq
    exact (h q e' hq).kept (oq q (h.lt hq))
theorem gP.kept {D : va_G} {cl : List vw_C} {G : gh} {H H1 : Heap} (h : gP D cl G H) (oq : ∀ q : Nat, q < H.size → H1[q]? = H[q]?) : gP D cl G H1 := fun q e hq => (h q e hq).kept (oq q (h.lt hq))
theorem gP.fresh {D : va_G} {cl : List vw_C} {G : gh} {H : Heap} (h : gP D cl G H) {q : Nat} (hq : H.size ≤ q) : G q = none := by
  cases hg : G q with
  | none => rfl
  | some e => have := h.lt hg; omega
/-- where a walk stands: the heap holds G, what G names may be written, nothing else has been -/
def gS (A : Nat → Prop) (H0 : Heap) (D : va_G) (cl : List vw_C) (G : gh) (H : Heap) (locs : List Loc) : Prop :=
  gP D cl G H ∧ (∀ a, G a ≠ none → A a) ∧ va_S A H0 H locs ∧ ∀ q, H0.size ≤ q → A q
theorem gS.start {D : va_G} {cl : List vw_C} {G : gh} {H : Heap} (h : gP D cl G H) : gS (gA G H.size) H D cl G H [] :=
  ⟨h, fun _ ha => Or.inl ha, va_S.rf, fun _ hq => Or.inr hq⟩
theorem gS.free {A : Nat → Prop} {H0 : Heap} {D : va_G} {cl : List vw_C} {G : gh} {H : Heap} {locs : List Loc} (h : gS A H0 D cl G H locs) : ∀ q, gA G H.size q → A q := by
  intro q hq
  rcases hq with h1 | h1
  · exact h.2.1 q h1
  · exact h.2.2.2 q (Nat.le_trans h.2.2.1.1 h1)
/-- behind a call -/
theorem gS.back {A : Nat → Prop} {H0 : Heap} {D : va_G} {cl : List vw_C} {G G' : gh} {H H1 : Heap} {locs locs1 : List Loc} (h : gS A H0 D cl G H locs) (hP : gP D cl G' H1) (hsub : ∀ a, G' a ≠ none → gA G H.size a) (hS : va_S A H0 H1 locs1) : gS A H0 D cl G' H1 locs1 :=
  ⟨hP, fun a ha => h.free a (hsub a ha), hS, h.2.2.2⟩
theorem gS.put {A : Nat → Prop} {H0 : Heap} {D : va_G} {cl : List vw_C} {G : gh} {H H1 : Heap} {locs : List Loc} {a : Nat} {e0 e : va_E} {i : Nat} (h : gS A H0 D cl G H locs) (ha : G a = some e0) (he : va_at D cl (a, e) H1) (hz : H1.size = H.size) (oq : ∀ q : Nat, q ≠ a → H1[q]? = H[q]?) : gS A H0 D cl (gup G a e) H1 (locs ++ [⟨a, i⟩]) := by
  have hAa : A a := h.2.1 a (by rw [ha]; exact Option.some_ne_none _)
  refine ⟨h.1.put he oq, fun q hq => ?_, h.2.2.1.put hz oq hAa, h.2.2.2⟩
  by_cases hqa : q = a
  · subst hqa; exact hAa
  · rw [gup_ne _ _ hqa] at hq
    exact h.2.1 q hq
theorem gS.push {A : Nat → Prop} {H0 : Heap} {D : va_G} {cl : List vw_C} {G : gh} {H H1 : Heap} {locs : List Loc} {e : va_E} (h : gS A H0 D cl G H locs) (he : va_at D cl (H.size, e) H1) (hz : H.size ≤ H1.size) (oq : ∀ q : Nat, q < H.size → H1[q]? = H[q]?) : gS A H0 D cl (gup G H.size e) H1 locs := by
  refine ⟨h.1.push he oq, fun q hq => ?_, ⟨Nat.le_trans h.2.2.1.1 hz, fun q h1 h2 => (oq q (Nat.lt_of_lt_of_le h1 h.2.2.1.1)).trans (h.2.2.1.2.1 q h1 h2), h.2.2.1.2.2⟩, h.2.2.2⟩
  by_cases hqa : q = H.size
  · subst hqa; exact h.2.2.2 _ h.2.2.1.1
  · rw [gup_ne _ _ hqa] at hq
    exact h.2.1 q hq
