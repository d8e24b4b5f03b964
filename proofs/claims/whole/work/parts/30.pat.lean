/-! The heap with the patterns' numbers written into it. -/
def patI (pt : Nat → Option Nat) (a : Nat) : Option Nat := (List.range 24).find? (fun i => decide (pt i = some a))
def patG (G : gh) (pt : Nat → Option Nat) (pd : Nat → Pat) : gh := fun a => match patI pt a with
  | some i => some (.inr (3, pfs (pd i)))
  | none => G a
def ptInj (pt : Nat → Option Nat) : Prop := ∀ i j a, i < 24 → j < 24 → pt i = some a → pt j = some a → i = j
theorem patI_some {pt : Nat → Option Nat} {a i : Nat} (h : patI pt a = some i) : i < 24 ∧ pt i = some a := by
  have h1 := List.find?_some h
  have h2 := List.mem_of_find?_eq_some h
  exact ⟨List.mem_range.mp h2, by simpa using h1⟩
theorem patI_none {pt : Nat → Option Nat} {a : Nat} (h : patI pt a = none) : ∀ i, i < 24 → pt i ≠ some a := by
  intro i hi hp
  have := List.find?_eq_none.mp h i (List.mem_range.mpr hi)
  simp [hp] at this
theorem patI_of {pt : Nat → Option Nat} (hj : ptInj pt) {a i : Nat} (hi : i < 24) (hp : pt i = some a) : patI pt a = some i := by
  cases h : patI pt a with
  | none => exact absurd hp (patI_none h i hi)
  | some k =>
    obtain ⟨h1, h2⟩ := patI_some h
    rw [hj i k a hi h1 hp h2]
theorem patG_get {G : gh} {pt : Nat → Option Nat} {pd : Nat → Pat} (hj : ptInj pt) {a i : Nat} (hi : i < 24) (hp : pt i = some a) : patG G pt pd a = some (.inr (3, pfs (pd i))) := by
  unfold patG
  rw [patI_of hj hi hp]
theorem patG_off {G : gh} {pt : Nat → Option Nat} {pd : Nat → Pat} {a : Nat} (h : ∀ i, i < 24 → pt i ≠ some a) : patG G pt pd a = G a := by
  unfold patG
  cases h1 : patI pt a with
  | none => rfl
  | some k => exact absurd (patI_some h1).2 (h k (patI_some h1).1)
theorem patG_keep {G : gh} {pt : Nat → Option Nat} {pd pd' : Nat → Pat} (hpt : ∀ i a, i < 24 → pt i = some a → G a = some (.inr (3, pfs (pd i)))) {b : Nat} {e : va_E} (hb : G b = some e) (hne : ∀ q : Pat, e ≠ .inr (3, pfs q)) : patG G pt pd' b = some e := by
  rw [patG_off]
  · exact hb
  · intro i hi hp
    have := hpt i b hi hp
    rw [hb] at this
    exact hne _ (Option.some.inj this)
theorem patG_self {G : gh} {pt : Nat → Option Nat} {pd : Nat → Pat} (hpt : ∀ i a, i < 24 → pt i = some a → G a = some (.inr (3, pfs (pd i)))) : patG G pt pd = G := by
  funext a
  unfold patG
  cases h : patI pt a with
  | none => rfl
  | some i => exact (hpt i a (patI_some h).1 (patI_some h).2).symm
theorem patG_congr {G : gh} {pt : Nat → Option Nat} {pd pd' : Nat → Pat} (h : ∀ i a, i < 24 → pt i = some a → pd i = pd' i) : patG G pt pd = patG G pt pd' := by
  funext a
  unfold patG
  cases h1 : patI pt a with
  | none => rfl
  | some i => simp only [h i a (patI_some h1).1 (patI_some h1).2]
theorem patG_up {G : gh} {pt : Nat → Option Nat} {pd : Nat → Pat} (hj : ptInj pt) {a i : Nat} (hi : i < 24) (hp : pt i = some a) (q : Pat) : gup (patG G pt pd) a (.inr (3, pfs q)) = patG G pt (va_up pd i q) := by
  funext b
  by_cases hb : b = a
  · subst hb
    rw [gup_self, patG_get hj hi hp, va_up_self]
  · rw [gup_ne _ _ hb]
    unfold patG
    cases h1 : patI pt b with
    | none => rfl
    | some k =>
      have h2 := patI_some h1
      have hk : k ≠ i := fun z => hb (by subst z; exact Option.some.inj (h2.2.symm.trans hp))
      simp only [va_up_ne _ _ hk]
theorem patG_patG {G : gh} {pt : Nat → Option Nat} {pd pd' : Nat → Pat} : patG (patG G pt pd) pt pd' = patG G pt pd' := by
  funext a
  unfold patG
  cases patI pt a <;> rfl
/-- a pattern's writes -/
def qsd (q : Pat) (v : Int32) : Pat := (pca q, pva q, pmk q, pfa q, v, pgn q)
def qgn (q : Pat) (v : Int32) : Pat := (pca q, pva q, pmk q, pfa q, psd q, v)
def qfa (q : Pat) (v : Int32) : Pat := (pca q, pva q, pmk q, v, psd q, pgn q)
def qmk (q : Pat) (v : Int32) : Pat := (pca q, pva q, v, pfa q, psd q, pgn q)
def qcare (q : Pat) (pl v : Int32) : Pat := (if v = -1 then pca q &&& (pl ^^^ (-1)) else pca q ||| pl, if v = 1 then pva q ||| pl else pva q &&& (pl ^^^ (-1)), pmk q, pfa q, -1, pgn q)
def qtake (q o : Pat) : Pat := (pca q ||| pca o, pva q ||| pva o, pmk q ||| pmk o, pfa q ||| pfa o, -1, pgn q)
theorem vp_cell_lcongr {c : ClassId} {n : Nat} {f g : Nat → Int64} (h : ∀ j, j < n → f j = g j) : vp_cell c (n, .inr (.inl f)) = vp_cell c (n, .inr (.inl g)) := by
  rw [vp_cell_l, vp_cell_l]
  unfold arrV
  congr 1
  apply Array.ext
  · simp
  · intro i h1 h2
    simp only [Array.getElem_ofFn]
    rw [h i (by simpa using h1)]
theorem gS.lcongr {A : Nat → Prop} {H0 : Heap} {D : va_G} {cl : List vw_C} {G : gh} {H : Heap} {locs : List Loc} {a n : Nat} {c : ClassId} {f g : Nat → Int64} (h : gS A H0 D cl (gup G a (.inl (c, n, .inr (.inl f)))) H locs) (hfg : ∀ j, j < n → f j = g j) : gS A H0 D cl (gup G a (.inl (c, n, .inr (.inl g)))) H locs := by
  refine ⟨fun q e hq => ?_, fun q hq => ?_, h.2.2⟩
  · by_cases hqa : q = a
    · subst hqa
      rw [gup_self] at hq
      cases hq
      have h1 : H[q]? = some (vp_cell c (n, .inr (.inl f))) := h.1 q _ (gup_self _ _ _)
      show H[q]? = some (vp_cell c (n, .inr (.inl g)))
      rw [h1, vp_cell_lcongr hfg]
    · rw [gup_ne _ _ hqa] at hq
      exact h.1 q e (by rw [gup_ne _ _ hqa]; exact hq)
  · refine h.2.1 q (fun z => hq ?_)
    by_cases hqa : q = a
    · subst hqa; rw [gup_self] at z; cases z
    · rw [gup_ne _ _ hqa] at z ⊢; exact z
