/-! Constructors: the world that makes an array of patterns; the nearest numbers there can be. -/
def gPo (Z : gZ) (G : gh) (sz : Nat) : State → Prop := fun U => va_AO "PackSeeds$Pattern" U ∧ gPw Z G sz U
theorem gPo.blind {Z : gZ} {G : gh} {sz : Nat} {av : List Value} : FrameBlind (va_Pc av (gPo Z G sz)) := fun a U g mk q => ⟨q.1, va_AO.moved (u := U) (U := U.calling g mk a) (Vm.Alike.refl U.vm) q.2.1, q.2.2.1, q.2.2.2.1, gE.same (s := U) (U := U.calling g mk a) rfl q.2.2.2.2⟩
theorem gPoS {Z : gZ} {G : gh} {H : Heap} {s : State} {As : List Value} (hG : gP Z.1 cls G H) (hE : gE Z s) (hO : va_AO "PackSeeds$Pattern" s) : PreS s H (va_Pc As (gPo Z G H.size)) As :=
  ⟨gPo.blind, fun U hU hW => ⟨rfl, va_AO.moved hW.alike hO, by rw [hU], by rw [hU]; exact hG, hE.warm hW⟩⟩
def cla (m x : Int32) : Int32 := if (if 1 < x then x else 1) < m then (if 1 < x then x else 1) else m
theorem cla_n {x : Int32} (m : Nat) (h1 : 1 ≤ m) (h2 : m < 2 ^ 31) : ∃ n, 1 ≤ n ∧ n ≤ m ∧ cla (nI m) x = nI n := by
  have e1 : (1 : Int32).toInt = 1 := by decide
  unfold cla
  by_cases h3 : 1 < x
  · rw [if_pos h3]
    by_cases h4 : x < nI m
    · rw [if_pos h4]
      rcases pk_ix x (n := m) h2 with h9 | h9 | ⟨j, hj, rfl⟩
      · rw [Int32.lt_iff_toInt_lt, e1] at h3; rw [Int32.lt_iff_toInt_lt, Int32.toInt_zero] at h9; omega
      · rw [Int32.le_iff_toInt_le] at h9; rw [Int32.lt_iff_toInt_lt] at h4; omega
      · rw [Int32.lt_iff_toInt_lt, e1, nI_toInt (by omega)] at h3; exact ⟨j, by omega, by omega, rfl⟩
    · rw [if_neg h4]; exact ⟨m, h1, Nat.le_refl _, rfl⟩
  · rw [if_neg h3]
    by_cases h4 : 1 < nI m
    · rw [if_pos h4]; exact ⟨1, by omega, by omega, rfl⟩
    · rw [if_neg h4]; exact ⟨m, h1, Nat.le_refl _, rfl⟩
theorem cla_m {x m : Int32} (hm : 1 < m) : (if 1 ≤ x then (if x ≤ m then x else m) else 1) = cla m x := by
  unfold cla
  rw [Int32.lt_iff_toInt_lt] at hm
  by_cases h1 : 1 < x
  · have h2 : 1 ≤ x := by rw [Int32.lt_iff_toInt_lt] at h1; rw [Int32.le_iff_toInt_le]; omega
    rw [if_pos h1, if_pos h2]
    by_cases h3 : x < m
    · rw [if_pos h3, if_pos (by rw [Int32.lt_iff_toInt_lt] at h3; rw [Int32.le_iff_toInt_le]; omega)]
    · rw [if_neg h3]
      by_cases h4 : x ≤ m
      · rw [if_pos h4]; rw [Int32.lt_iff_toInt_lt] at h3; rw [Int32.le_iff_toInt_le] at h4; exact Int32.toInt_inj.mp (by omega)
      · rw [if_neg h4]
  · rw [if_neg h1, if_pos (show (1 : Int32) < m by rw [Int32.lt_iff_toInt_lt]; exact hm)]
    by_cases h2 : 1 ≤ x
    · have h3 : x = 1 := by rw [Int32.lt_iff_toInt_lt] at h1; rw [Int32.le_iff_toInt_le] at h2; exact Int32.toInt_inj.mp (by omega)
      subst h3
      rw [if_pos h2, if_pos (by rw [Int32.le_iff_toInt_le]; omega)]
    · rw [if_neg h2]
/-- what a method may have written: the cells of which P speaks -/
def gKe (P : Nat → Prop) (G G' : gh) : Prop := ∀ q, ¬ P q → G q ≠ none → G' q = G q
theorem gKe.rf {P : Nat → Prop} {G : gh} : gKe P G G := fun _ _ _ => rfl
theorem gKe.up {P : Nat → Prop} {G G' : gh} (h : gKe P G G') {a : Nat} {e : va_E} (ha : P a) : gKe P G (gup G' a e) := fun q h1 h2 => by rw [gup_ne _ _ (fun z => h1 (by rw [z]; exact ha))]; exact h q h1 h2
theorem gKe.new {P : Nat → Prop} {G G' : gh} (h : gKe P G G') {a : Nat} {e : va_E} (ha : G' a = none) : gKe P G (gup G' a e) := fun q h1 h2 => by rw [gup_ne _ _ (fun z => h2 (by rw [← h q h1 h2, z]; exact ha))]; exact h q h1 h2
theorem gKe.tr {P : Nat → Prop} {G G1 G2 : gh} (h : gKe P G G1) (h' : gKe P G1 G2) : gKe P G G2 := fun q h1 h2 => by rw [h' q h1 (by rw [h q h1 h2]; exact h2)]; exact h q h1 h2
theorem gKe.mono {P P' : Nat → Prop} {G G1 : gh} (h : gKe P G G1) (hp : ∀ q, G q ≠ none → P q → P' q) : gKe P' G G1 := fun q h1 h2 => h q (fun z => h1 (hp q h2 z)) h2
theorem gKe.get {P : Nat → Prop} {G G1 : gh} (h : gKe P G G1) {q : Nat} {e : va_E} (hq : ¬ P q) (he : G q = some e) : G1 q = some e := by rw [h q hq (by rw [he]; simp)]; exact he
theorem gA.of {G G' : gh} {sz : Nat} {a : Nat} (hn : G a = none) (h : ∀ q, G' q ≠ none → gA G sz q) (ha : G' a ≠ none) : sz ≤ a := by
  rcases h a ha with h1 | h1
  · exact absurd hn h1
  · exact h1
/-- the reference's cells -/
def moP (Z : gZ) (G : gh) (mo c1 c2 c3 c4 c5 c6 c7 : Nat) (th : Int32) (C E M D : Nat) (fl : Int32) (cf mf ff gf sf tf bf : Nat → Int32) : Prop :=
  G mo = some (.inr (4, [.int th, .int (nI C), .int (nI E), .ref c1, .ref c2, .ref c3, .ref c4, .ref c5, .int (nI M), .int (nI D), .ref c6, .int fl, .ref c7])) ∧ G c1 = some (.inl (Z.2 1, 768, .inl cf)) ∧ G c2 = some (.inl (Z.2 2, 768, .inl mf)) ∧ G c3 = some (.inl (Z.2 2, 744, .inl ff)) ∧ G c4 = some (.inl (Z.2 2, 24, .inl gf)) ∧ G c5 = some (.inl (Z.2 1, 24, .inl sf)) ∧ G c6 = some (.inl (Z.2 2, 16, .inl tf)) ∧ G c7 = some (.inl (Z.2 1, 16, .inl bf)) ∧ c1 ≠ c2 ∧ c4 ≠ c5 ∧ c6 ≠ c7
abbrev moI (mo c1 c2 c3 c4 c5 c6 c7 : Nat) : Nat → Prop := fun q => q = mo ∨ q = c1 ∨ q = c2 ∨ q = c3 ∨ q = c4 ∨ q = c5 ∨ q = c6 ∨ q = c7
theorem gup_comm {G : gh} {a b : Nat} {e e' : va_E} (h : a ≠ b) : gup (gup G a e) b e' = gup (gup G b e') a e := by
  funext q
  by_cases h1 : q = a
  · subst h1; rw [gup_self, gup_ne _ _ h, gup_self]
  · by_cases h2 : q = b
    · subst h2; rw [gup_self, gup_ne _ _ h1, gup_self]
    · rw [gup_ne _ _ h2, gup_ne _ _ h1, gup_ne _ _ h1, gup_ne _ _ h2]
theorem gnone {G : gh} {a q : Nat} {e : va_E} (h : gup G a e q = none) : G q = none := by
  by_cases e1 : q = a
  · subst e1; rw [gup_self] at h; cases h
  · rw [gup_ne _ _ e1] at h; exact h
theorem gnoneK2 {P : Nat → Prop} {G G1 : gh} (hK : gKe P G G1) {a q : Nat} {e : va_E} (h : G1 q = none) (ha : G1 a = some e) (hP : ∀ z, P z → z = a := by intro z h; exact h) : G q = none := by
  cases hq : G q with
  | none => rfl
  | some e1 =>
    have h1 : ¬ P q := fun z => by rw [hP q z] at h; rw [ha] at h; cases h
    rw [hK q h1 (by rw [hq]; simp), hq] at h
    cases h
