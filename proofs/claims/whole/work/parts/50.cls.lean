/-! The class's cells beside the reference's; what a call of one side leaves to the other. -/
def mE (e : va_E) : Prop := (∃ fs, e = .inr (4, fs)) ∨ (∃ (k : ClassId) (n : Nat) (f : Nat → Int32), e = .inl (k, n, .inl f))
def oE (e : va_E) : Prop := ∃ (k : ClassId) (f : Nat → Int64), e = .inl (k, 1, .inr (.inl f))
def kX (P : va_E → Prop) (G G1 : gh) : Prop := ∀ q e, G q = some e → P e → G1 q = some e
abbrev noC : va_E → Prop := fun e => mE e ∨ oE e
theorem kX.rf {P : va_E → Prop} {G : gh} : kX P G G := fun _ _ h _ => h
theorem kX.tr {P : va_E → Prop} {G G1 G2 : gh} (h : kX P G G1) (h' : kX P G1 G2) : kX P G G2 := fun q e h1 h2 => h' q e (h q e h1 h2) h2
theorem kX.mono {P P' : va_E → Prop} {G G1 : gh} (h : kX P G G1) (hp : ∀ e, P' e → P e) : kX P' G G1 := fun q e h1 h2 => h q e h1 (hp e h2)
theorem kX.up {P : va_E → Prop} {G G1 : gh} (h : kX P G G1) {a : Nat} {e0 e : va_E} (ha : G1 a = some e0) (hn : ¬ P e0) : kX P G (gup G1 a e) := fun q e' h1 h2 => by
  have h3 := h q e' h1 h2
  rw [gup_ne]
  · exact h3
  · intro z
    subst z
    rw [ha] at h3
    cases h3
    exact hn h2
theorem kX.new {P : va_E → Prop} {G G1 : gh} (h : kX P G G1) {a : Nat} {e : va_E} (ha : G1 a = none) : kX P G (gup G1 a e) := fun q e' h1 h2 => by
  have h3 := h q e' h1 h2
  rw [gup_ne]
  · exact h3
  · intro z
    subst z
    rw [ha] at h3
    cases h3
theorem kX.pat {P : va_E → Prop} {G G1 : gh} (h : kX P G G1) {pt : Nat → Option Nat} {pd pd' : Nat → Pat} (hpt : ∀ i a, i < 24 → pt i = some a → G1 a = some (.inr (3, pfs (pd i)))) (hn : ∀ fs, ¬ P (.inr (3, fs))) : kX P G (patG G1 pt pd') := fun q e' h1 h2 => by
  have h3 := h q e' h1 h2
  exact patG_keep hpt h3 (fun z hz => by subst hz; exact hn _ h2)
theorem noC_0 (fs : List Value) : ¬ noC (.inr (0, fs)) := by rintro ((⟨_, h⟩ | ⟨_, _, _, h⟩) | ⟨_, _, h⟩) <;> first | (cases h; done) | (simp at h; done)
theorem noC_2 (fs : List Value) : ¬ noC (.inr (2, fs)) := by rintro ((⟨_, h⟩ | ⟨_, _, _, h⟩) | ⟨_, _, h⟩) <;> first | (cases h; done) | (simp at h; done)
theorem noC_3 (fs : List Value) : ¬ noC (.inr (3, fs)) := by rintro ((⟨_, h⟩ | ⟨_, _, _, h⟩) | ⟨_, _, h⟩) <;> first | (cases h; done) | (simp at h; done)
theorem noC_r (k : ClassId) (f : Nat → Int64) : ¬ noC (.inl (k, 48, .inr (.inl f))) := by rintro ((⟨_, h⟩ | ⟨_, _, _, h⟩) | ⟨_, _, h⟩) <;> first | (cases h; done) | (simp at h; done)
theorem noC_p (k : ClassId) (n : Nat) (f : Nat → Option Nat) : ¬ noC (.inl (k, n, .inr (.inr (.inr (.inr f))))) := by rintro ((⟨_, h⟩ | ⟨_, _, _, h⟩) | ⟨_, _, h⟩) <;> first | (cases h; done) | (simp at h; done)
theorem mE_o (k : ClassId) (n : Nat) (f : Nat → Int64) : ¬ mE (.inl (k, n, .inr (.inl f))) := by rintro (⟨_, h⟩ | ⟨_, _, _, h⟩) <;> first | (cases h; done) | (simp at h; done)
theorem mE_p (k : ClassId) (n : Nat) (f : Nat → Option Nat) : ¬ mE (.inl (k, n, .inr (.inr (.inr (.inr f))))) := by rintro (⟨_, h⟩ | ⟨_, _, _, h⟩) <;> first | (cases h; done) | (simp at h; done)
theorem mE_c {ci : Nat} (hc : ci ≠ 4) (fs : List Value) : ¬ mE (.inr (ci, fs)) := by
  rintro (⟨_, h⟩ | ⟨_, _, _, h⟩)
  · cases h; exact hc rfl
  · cases h
/-- the class's own cells -/
def clP (Z : gZ) (G : gh) (x sh ma ro pa C E M D : Nat) (fk tp : Int32) (rw : Nat → Int64) (pt : Nat → Option Nat) (pd : Nat → Pat) : Prop :=
  G x = some (.inr (0, [.ref sh, .ref ma, .ref pa, .int (nI M), .int fk])) ∧ G sh = some (.inr (1, [.int (nI C), .int (nI E)])) ∧ G ma = some (.inr (2, [.ref sh, .ref ro, .int (nI D), .int tp])) ∧ G ro = some (.inl (Z.2 0, 48, .inr (.inl rw))) ∧ G pa = some (.inl (Z.2 3, 24, .inr (.inr (.inr (.inr pt))))) ∧ (∀ i a, i < 24 → pt i = some a → G a = some (.inr (3, pfs (pd i)))) ∧ ptInj pt
def clQ (Z : gZ) (G : gh) (x C E M D : Nat) (fk tp : Int32) (pt : Nat → Option Nat) (pd : Nat → Pat) : Prop := ∃ sh ma ro pa rw, clP Z G x sh ma ro pa C E M D fk tp rw pt pd
section CLP
variable {Z : gZ} {G : gh} {x sh ma ro pa C E M D : Nat} {fk tp : Int32} {rw : Nat → Int64} {pt : Nat → Option Nat} {pd : Nat → Pat}
theorem clP_pat (h : clP Z G x sh ma ro pa C E M D fk tp rw pt pd) (pd' : Nat → Pat) : clP Z (patG G pt pd') x sh ma ro pa C E M D fk tp rw pt pd' ∧ kX noC G (patG G pt pd') := by
  obtain ⟨h1, h2, h3, h4, h5, h6, h7⟩ := h
  refine ⟨⟨patG_keep h6 h1 (fun q z => ?_), patG_keep h6 h2 (fun q z => ?_), patG_keep h6 h3 (fun q z => ?_), patG_keep h6 h4 (fun q z => ?_), patG_keep h6 h5 (fun q z => ?_), fun i a hi ha => patG_get h7 hi ha, h7⟩, kX.rf.pat h6 noC_3⟩ <;> first | (cases z; done) | (simp at z; done)
theorem clP_mach (h : clP Z G x sh ma ro pa C E M D fk tp rw pt pd) (D' : Nat) (tp' : Int32) : clP Z (gup G ma (.inr (2, [.ref sh, .ref ro, .int (nI D'), .int tp']))) x sh ma ro pa C E M D' fk tp' rw pt pd ∧ kX noC G (gup G ma (.inr (2, [.ref sh, .ref ro, .int (nI D'), .int tp']))) := by
  obtain ⟨h1, h2, h3, h4, h5, h6, h7⟩ := h
  exact ⟨⟨gup_keep h3 h1 (by simp), gup_keep h3 h2 (by simp), gup_self _ _ _, gup_keep h3 h4 (by simp), gup_keep h3 h5 (by simp), fun i a hi ha => gup_keep h3 (h6 i a hi ha) (by simp), h7⟩, kX.rf.up h3 (noC_2 _)⟩
theorem clP_rows (h : clP Z G x sh ma ro pa C E M D fk tp rw pt pd) (rw' : Nat → Int64) : clP Z (gup G ro (.inl (Z.2 0, 48, .inr (.inl rw')))) x sh ma ro pa C E M D fk tp rw' pt pd ∧ kX noC G (gup G ro (.inl (Z.2 0, 48, .inr (.inl rw')))) := by
  obtain ⟨h1, h2, h3, h4, h5, h6, h7⟩ := h
  exact ⟨⟨gup_keep h4 h1 (by simp), gup_keep h4 h2 (by simp), gup_keep h4 h3 (by simp), gup_self _ _ _, gup_keep h4 h5 (by simp), fun i a hi ha => gup_keep h4 (h6 i a hi ha) (by simp), h7⟩, kX.rf.up h4 (noC_r _ _)⟩
theorem clP_obj (h : clP Z G x sh ma ro pa C E M D fk tp rw pt pd) (M' : Nat) (fk' : Int32) : clP Z (gup G x (.inr (0, [.ref sh, .ref ma, .ref pa, .int (nI M'), .int fk']))) x sh ma ro pa C E M' D fk' tp rw pt pd ∧ kX noC G (gup G x (.inr (0, [.ref sh, .ref ma, .ref pa, .int (nI M'), .int fk']))) := by
  obtain ⟨h1, h2, h3, h4, h5, h6, h7⟩ := h
  exact ⟨⟨gup_self _ _ _, gup_keep h1 h2 (by simp), gup_keep h1 h3 (by simp), gup_keep h1 h4 (by simp), gup_keep h1 h5 (by simp), fun i a hi ha => gup_keep h1 (h6 i a hi ha) (by simp), h7⟩, kX.rf.up h1 (noC_0 _)⟩
theorem clP_made (h : clP Z G x sh ma ro pa C E M D fk tp rw pt pd) (hM : M < 24) {q : Nat} (hq : G q = none) : clP Z (gup (gup (gup G q (.inr (3, pfs pat0))) pa (.inl (Z.2 3, 24, .inr (.inr (.inr (.inr (va_up pt M (some q)))))))) x (.inr (0, [.ref sh, .ref ma, .ref pa, .int (nI (M + 1)), .int fk]))) x sh ma ro pa C E (M + 1) D fk tp rw (va_up pt M (some q)) (va_up pd M pat0) ∧ kX noC G (gup (gup (gup G q (.inr (3, pfs pat0))) pa (.inl (Z.2 3, 24, .inr (.inr (.inr (.inr (va_up pt M (some q)))))))) x (.inr (0, [.ref sh, .ref ma, .ref pa, .int (nI (M + 1)), .int fk]))) := by
  obtain ⟨h1, h2, h3, h4, h5, h6, h7⟩ := h
  have a1 := gup_new (e := .inr (3, pfs pat0)) hq h1
  have a2 := gup_new (e := .inr (3, pfs pat0)) hq h2
  have a3 := gup_new (e := .inr (3, pfs pat0)) hq h3
  have a4 := gup_new (e := .inr (3, pfs pat0)) hq h4
  have a5 := gup_new (e := .inr (3, pfs pat0)) hq h5
  have a6 : ∀ i a, i < 24 → va_up pt M (some q) i = some a → gup G q (.inr (3, pfs pat0)) a = some (.inr (3, pfs (va_up pd M pat0 i))) := by
    intro i a hi ha
    by_cases e : i = M
    · subst e
      rw [va_up_self] at ha
      cases ha
      rw [gup_self, va_up_self]
    · rw [va_up_ne _ _ e] at ha
      rw [va_up_ne _ _ e]
      exact gup_new hq (h6 i a hi ha)
  have h7' : ptInj (va_up pt M (some q)) := by
    intro i j a hi hj hia hja
    by_cases e1 : i = M
    · by_cases e2 : j = M
      · rw [e1, e2]
      · subst e1
        rw [va_up_self] at hia
        cases hia
        rw [va_up_ne _ _ e2] at hja
        have := h6 j _ hj hja
        rw [hq] at this
        cases this
    · by_cases e2 : j = M
      · subst e2
        rw [va_up_self] at hja
        cases hja
        rw [va_up_ne _ _ e1] at hia
        have := h6 i _ hi hia
        rw [hq] at this
        cases this
      · rw [va_up_ne _ _ e1] at hia
        rw [va_up_ne _ _ e2] at hja
        exact h7 i j a hi hj hia hja
  generalize hG1 : gup G q (.inr (3, pfs pat0)) = G1 at a1 a2 a3 a4 a5 a6 ⊢
  have k1 : kX noC G G1 := by rw [← hG1]; exact kX.rf.new hq
  have b1 := gup_keep (e := .inl (Z.2 3, 24, .inr (.inr (.inr (.inr (va_up pt M (some q))))))) a5 a1 (by simp)
  have b2 := gup_keep (e := .inl (Z.2 3, 24, .inr (.inr (.inr (.inr (va_up pt M (some q))))))) a5 a2 (by simp)
  have b3 := gup_keep (e := .inl (Z.2 3, 24, .inr (.inr (.inr (.inr (va_up pt M (some q))))))) a5 a3 (by simp)
  have b4 := gup_keep (e := .inl (Z.2 3, 24, .inr (.inr (.inr (.inr (va_up pt M (some q))))))) a5 a4 (by simp)
  have b6 : ∀ i a, i < 24 → va_up pt M (some q) i = some a → gup G1 pa (.inl (Z.2 3, 24, .inr (.inr (.inr (.inr (va_up pt M (some q))))))) a = some (.inr (3, pfs (va_up pd M pat0 i))) := fun i a hi ha => gup_keep a5 (a6 i a hi ha) (by simp)
  have b5 : gup G1 pa (.inl (Z.2 3, 24, .inr (.inr (.inr (.inr (va_up pt M (some q))))))) pa = some (.inl (Z.2 3, 24, .inr (.inr (.inr (.inr (va_up pt M (some q))))))) := gup_self _ _ _
  have k2 := k1.up (e := .inl (Z.2 3, 24, .inr (.inr (.inr (.inr (va_up pt M (some q))))))) a5 (noC_p _ _ _)
  generalize gup G1 pa (.inl (Z.2 3, 24, .inr (.inr (.inr (.inr (va_up pt M (some q))))))) = G2 at b1 b2 b3 b4 b5 b6 k2 ⊢
  obtain ⟨c1, c2⟩ := clP_obj (Z := Z) (rw := rw) (pd := va_up pd M pat0) ⟨b1, b2, b3, b4, b5, b6, h7'⟩ (M + 1) fk
  exact ⟨c1, k2.tr c2⟩
theorem clP_out (h : clP Z G x sh ma ro pa C E M D fk tp rw pt pd) {o : Nat} {ov : Nat → Int64} (ho : G o = some (.inl (Z.2 0, 1, .inr (.inl ov)))) (e : va_E) : clP Z (gup G o e) x sh ma ro pa C E M D fk tp rw pt pd ∧ kX mE G (gup G o e) := by
  obtain ⟨h1, h2, h3, h4, h5, h6, h7⟩ := h
  exact ⟨⟨gup_keep ho h1 (by simp), gup_keep ho h2 (by simp), gup_keep ho h3 (by simp), gup_keep ho h4 (by simp), gup_keep ho h5 (by simp), fun i a hi ha => gup_keep ho (h6 i a hi ha) (by simp), h7⟩, kX.rf.up ho (mE_o _ _ _)⟩
theorem clQ_kc (h : clQ Z G x C E M D fk tp pt pd) {G1 : gh} (hk : kX (fun e => ¬ mE e) G G1) : clQ Z G1 x C E M D fk tp pt pd := by
  obtain ⟨sh, ma, ro, pa, rw, h1, h2, h3, h4, h5, h6, h7⟩ := h
  exact ⟨sh, ma, ro, pa, rw, hk _ _ h1 (mE_c (by omega) _), hk _ _ h2 (mE_c (by omega) _), hk _ _ h3 (mE_c (by omega) _), hk _ _ h4 (mE_o _ _ _), hk _ _ h5 (mE_p _ _ _), fun i a hi ha => hk _ _ (h6 i a hi ha) (mE_c (by omega) _), h7⟩
theorem moP_km {mo u1 u2 u3 u4 u5 u6 u7 : Nat} {th fl : Int32} {cf mf ff gf sf tf bf : Nat → Int32} (h : moP Z G mo u1 u2 u3 u4 u5 u6 u7 th C E M D fl cf mf ff gf sf tf bf) {G1 : gh} (hk : kX mE G G1) : moP Z G1 mo u1 u2 u3 u4 u5 u6 u7 th C E M D fl cf mf ff gf sf tf bf := by
  obtain ⟨h0, h1, h2, h3, h4, h5, h6, h7, hn⟩ := h
  exact ⟨hk _ _ h0 (Or.inl ⟨_, rfl⟩), hk _ _ h1 (Or.inr ⟨_, _, _, rfl⟩), hk _ _ h2 (Or.inr ⟨_, _, _, rfl⟩), hk _ _ h3 (Or.inr ⟨_, _, _, rfl⟩), hk _ _ h4 (Or.inr ⟨_, _, _, rfl⟩), hk _ _ h5 (Or.inr ⟨_, _, _, rfl⟩), hk _ _ h6 (Or.inr ⟨_, _, _, rfl⟩), hk _ _ h7 (Or.inr ⟨_, _, _, rfl⟩), hn⟩
theorem moQ_km {mo u1 u2 u3 u4 u5 u6 u7 : Nat} {th fl : Int32} (h : moQ Z G mo u1 u2 u3 u4 u5 u6 u7 th C E M D fl tp pt pd) {G1 : gh} (hk : kX mE G G1) : moQ Z G1 mo u1 u2 u3 u4 u5 u6 u7 th C E M D fl tp pt pd := by
  obtain ⟨cf, mf, ff, gf, sf, tf, bf, h1, h2⟩ := h
  exact ⟨cf, mf, ff, gf, sf, tf, bf, moP_km h1 hk, h2⟩
/-- what a call of the reference leaves alone -/
theorem moQ_kc {mo u1 u2 u3 u4 u5 u6 u7 : Nat} {th fl : Int32} (h : moQ Z G mo u1 u2 u3 u4 u5 u6 u7 th C E M D fl tp pt pd) {G1 : gh} (hk : gKe (moI mo u1 u2 u3 u4 u5 u6 u7) G G1) : kX (fun e => ¬ mE e) G G1 := by
  obtain ⟨cf, mf, ff, gf, sf, tf, bf, ⟨h0, h1, h2, h3, h4, h5, h6, h7, -⟩, -⟩ := h
  intro q e hq he
  refine hk.get (fun z => ?_) hq
  rcases z with rfl | rfl | rfl | rfl | rfl | rfl | rfl | rfl
  · rw [h0] at hq; cases hq; exact he (Or.inl ⟨_, rfl⟩)
  · rw [h1] at hq; cases hq; exact he (Or.inr ⟨_, _, _, rfl⟩)
  · rw [h2] at hq; cases hq; exact he (Or.inr ⟨_, _, _, rfl⟩)
  · rw [h3] at hq; cases hq; exact he (Or.inr ⟨_, _, _, rfl⟩)
  · rw [h4] at hq; cases hq; exact he (Or.inr ⟨_, _, _, rfl⟩)
  · rw [h5] at hq; cases hq; exact he (Or.inr ⟨_, _, _, rfl⟩)
  · rw [h6] at hq; cases hq; exact he (Or.inr ⟨_, _, _, rfl⟩)
  · rw [h7] at hq; cases hq; exact he (Or.inr ⟨_, _, _, rfl⟩)
/-- the numbers' bounds, out of the reference -/
theorem moQ_bd {mo u1 u2 u3 u4 u5 u6 u7 : Nat} {th fl : Int32} (h : moQ Z G mo u1 u2 u3 u4 u5 u6 u7 th C E M D fl tp pt pd) : C ≤ 4 ∧ E ≤ 8 ∧ 1 ≤ D ∧ D ≤ 16 ∧ M ≤ 24 := by
  obtain ⟨cf, mf, ff, gf, sf, tf, bf, -, h2, h3, h4, h5, -⟩ := h
  exact ⟨h4, h5, h3.1, h3.2.1, h2.1⟩
end CLP
theorem oE_c (ci : Nat) (fs : List Value) : ¬ oE (.inr (ci, fs)) := by rintro ⟨_, _, h⟩; cases h
theorem oE_r (k : ClassId) (f : Nat → Int64) : ¬ oE (.inl (k, 48, .inr (.inl f))) := by rintro ⟨_, _, h⟩; cases h
theorem oE_p (k : ClassId) (n : Nat) (f : Nat → Option Nat) : ¬ oE (.inl (k, n, .inr (.inr (.inr (.inr f))))) := by rintro ⟨_, _, h⟩; cases h
theorem clQ_ko {Z : gZ} {G : gh} {x sh ma ro pa C E M D : Nat} {fk tp : Int32} {rw : Nat → Int64} {pt : Nat → Option Nat} {pd : Nat → Pat} (h : clP Z G x sh ma ro pa C E M D fk tp rw pt pd) {G1 : gh} (hk : kX (fun e => ¬ oE e) G G1) : clQ Z G1 x C E M D fk tp pt pd := by
  obtain ⟨h1, h2, h3, h4, h5, h6, h7⟩ := h
  exact ⟨sh, ma, ro, pa, rw, hk _ _ h1 (oE_c _ _), hk _ _ h2 (oE_c _ _), hk _ _ h3 (oE_c _ _), hk _ _ h4 (oE_r _ _), hk _ _ h5 (oE_p _ _ _), fun i a hi ha => hk _ _ (h6 i a hi ha) (oE_c _ _), h7⟩
theorem kX_out {G : gh} {o : Nat} {k : ClassId} {ov : Nat → Int64} (ho : G o = some (.inl (k, 1, .inr (.inl ov)))) {e : va_E} : kX mE G (gup G o e) ∧ kX (fun e => ¬ oE e) G (gup G o e) := ⟨kX.rf.up ho (mE_o _ _ _), kX.rf.up ho (fun h => h ⟨_, _, rfl⟩)⟩
def zl (r : Int32) : Int64 := if r = 0 then 0 else 1
theorem upL0 (f : Nat → Int64) (v : Int64) : vp_updL f 0 v 0 = v := by simp [vp_updL]
theorem zl0 {f : Nat → Int64} {r : Int32} (h : r = 0) : vp_updL f 0 0 0 = zl r := by rw [upL0, zl, if_pos h]
theorem zl1 {f : Nat → Int64} {r : Int32} (h : ¬ r = 0) : vp_updL f 0 1 0 = zl r := by rw [upL0, zl, if_neg h]
theorem moQ_cell {Z : gZ} {G : gh} {C E M D : Nat} {tp : Int32} {pt : Nat → Option Nat} {pd : Nat → Pat} {mo u1 u2 u3 u4 u5 u6 u7 : Nat} {th fl : Int32} (h : moQ Z G mo u1 u2 u3 u4 u5 u6 u7 th C E M D fl tp pt pd) : ∃ fs, G mo = some (.inr (4, fs)) := by
  obtain ⟨cf, mf, ff, gf, sf, tf, bf, ⟨h0, -⟩, -⟩ := h
  exact ⟨_, h0⟩
/-- the world of a helper that catches -/
def gNcx (U : State) : Prop := va_Nc "java/lang/IllegalArgumentException" "java/lang/IndexOutOfBoundsException" U
def gPy (Z : gZ) (G : gh) (sz : Nat) : State → Prop := fun U => gNcx U ∧ gPx Z G sz U
theorem gPy.blind {Z : gZ} {G : gh} {sz : Nat} {av : List Value} : FrameBlind (va_Pc av (gPy Z G sz)) := fun a U g mk q => ⟨q.1, va_Nc.moved (u := U) (U := U.calling g mk a) (Vm.Alike.refl U.vm) q.2.1, (gPx.blind (av := av) a U g mk ⟨q.1, q.2.2⟩).2⟩
theorem gPyS {Z : gZ} {G : gh} {A : Nat → Prop} {H0 H : Heap} {locs : List Loc} {s : State} {As : List Value} (hG : gS A H0 Z.1 cls G H locs) (hE : gE Z s) (hX : gXt A s H0) (hN : gNcx s) : PreS s H (va_Pc As (gPy Z G H.size)) As :=
  ⟨gPy.blind, fun U hU hW => ⟨rfl, va_Nc.moved hW.alike hN, ((gPxS (As := As) hG hE hX).2 U hU hW).2⟩⟩
section GCLS
variable {p : Program} {l : Launch} {e : Env} {R : Room} {s : State} {m : MethodId} {args : Array Value} {below : List Frame} {meth : Method} {c : Code} {H : Heap} {locs : List Loc} {cells slots : Nat} {Q : State → Prop}
variable {cc bytes : ByteArray} {pc nL maxL mc ms n index b : Nat} {ret : Option FieldType} {ls : Array Slot} {st0 rest As : List Value} {own : String} {y : MethodName} {rm : Room} {Pc : Array Value → State → Prop} {Qc : Array Value → State → Outcome → State → Prop} {XC : String → State → State → Prop} {free : Addr → Prop} {Z : gZ} {G : gh} {A : Nat → Prop} {H0 : Heap} {aa : Array Value} {hh : List (Nat × Nat × Nat × Nat)}
theorem gS.thrown {D : va_G} {cl : List vw_C} (h : gS A H0 D cl G H locs) {H1 : Heap} (hz : H.size ≤ H1.size) (hk : ∀ q : Nat, q < H.size → H1[q]? = H[q]?) : gS A H0 D cl G H1 locs :=
  ⟨h.1.kept hk, h.2.1, ⟨Nat.le_trans h.2.2.1.1 hz, fun q h1 h2 => (hk q (Nat.lt_of_lt_of_le h1 h.2.2.1.1)).trans (h.2.2.1.2.1 q h1 h2), h.2.2.1.2.2⟩, h.2.2.2⟩
/-- where a call has thrown -/
def gThr2 (p : Program) (l : Launch) (e : Env) (R : Room) (s : State) (m : MethodId) (args : Array Value) (below : List Frame) (meth : Method) (c : Code) (cells slots : Nat) (Q : State → Prop) (g : JFrame) (XP : String → Prop) (Z : gZ) (G : gh) (A : Nat → Prop) (H0 : Heap) : Prop :=
  ∀ (E : String) (ce : Cell) (q9 : Addr) (H1 : Heap) (locs1 : List Loc), XP E → gS A H0 Z.1 cls G H1 locs1 → H1[q9]? = some ce → ce.vm = .none → s.vm.findClass E = some ce.cls → vx_W p l e R s m args below meth c H1 locs1 cells slots Q g q9
theorem g_hxi {post : Int32 → Prop} {XP : String → Prop} (hG : gS A H0 Z.1 cls G H locs) (hz : s.heap.size ≤ H.size) (hr : vx_Run p l e R s m args below meth c H locs cells slots mc ms (F0 m pc ls st0) rest (vp_Si post aa) (gXC XP H.size) (fun q => H.size ≤ q))
    (kx : gThr2 p l e R s m args below meth c (cells + mc) (slots + ms) Q (F0 m pc ls rest) XP Z G A H0)
    (kk : ∀ r : Int32, post r → W p l e R s m args below meth c H locs (cells + mc) (slots + ms) Q (F0 m (pc + 3) ls (.int r :: rest))) : W p l e R s m args below meth c H locs cells slots Q (F0 m pc ls st0) :=
  g_xreti hz hr (fun E ce q9 H1 hE hz1 hk1 h9 hv hcl => kx E ce q9 H1 locs hE (hG.thrown hz1 hk1) h9 hv hcl) kk
theorem g_hxl {post : Int64 → Prop} {XP : String → Prop} (hG : gS A H0 Z.1 cls G H locs) (hz : s.heap.size ≤ H.size) (hr : vx_Run p l e R s m args below meth c H locs cells slots mc ms (F0 m pc ls st0) rest (vp_Sl post aa) (gXC XP H.size) (fun q => H.size ≤ q))
    (kx : gThr2 p l e R s m args below meth c (cells + mc) (slots + ms) Q (F0 m pc ls rest) XP Z G A H0)
    (kk : ∀ r : Int64, post r → W p l e R s m args below meth c H locs (cells + mc) (slots + ms) Q (F0 m (pc + 3) ls (.long r :: rest))) : W p l e R s m args below meth c H locs cells slots Q (F0 m pc ls st0) :=
  g_xretl hz hr (fun E ce q9 H1 hE hz1 hk1 h9 hv hcl => kx E ce q9 H1 locs hE (hG.thrown hz1 hk1) h9 hv hcl) kk
theorem g_hwi {post : Int32 → gh → Prop} {XP : String → Prop} (hG : gS A H0 Z.1 cls G H locs) (hr : vx_Run p l e R s m args below meth c H locs cells slots mc ms (F0 m pc ls st0) rest (va_Qi post (gW Z G H.size) (gA G H.size) aa) (gXC XP H.size) (gA G H.size))
    (kx : gThr2 p l e R s m args below meth c (cells + mc) (slots + ms) Q (F0 m pc ls rest) XP Z G A H0)
    (kk : ∀ (r : Int32) (G' : gh) (H1 : Heap) (locs1 : List Loc), post r G' → gS A H0 Z.1 cls G' H1 locs1 → W p l e R s m args below meth c H1 locs1 (cells + mc) (slots + ms) Q (F0 m (pc + 3) ls (.int r :: rest))) : W p l e R s m args below meth c H locs cells slots Q (F0 m pc ls st0) :=
  vx_calli hr hG.2.2.1 (fun q _ h => hG.free q h) hG.free (fun q h1 h2 => absurd h2 (Nat.not_le.mpr h1))
    (fun E ce q9 u t H1 locs1 ht _ _ hB hz1 hk1 hS h9 hv hcl => kx E ce q9 H1 locs1 hB ⟨hG.1.kept (fun q h => hk1 q h (Nat.not_le.mpr h)), hG.2.1, hS, hG.2.2.2⟩ h9 hv hcl)
    (fun r u t H1 locs1 ht _ hp hB _ _ hS => kk r u H1 locs1 hp (hG.back (by rw [← ht]; exact hB.1) hB.2 hS))
theorem g_hwv {post : gh → Prop} {XP : String → Prop} (hG : gS A H0 Z.1 cls G H locs) (hr : vx_Run p l e R s m args below meth c H locs cells slots mc ms (F0 m pc ls st0) rest (va_Qv post (gW Z G H.size) (gA G H.size) aa) (gXC XP H.size) (gA G H.size))
    (kx : gThr2 p l e R s m args below meth c (cells + mc) (slots + ms) Q (F0 m pc ls rest) XP Z G A H0)
    (kk : ∀ (G' : gh) (H1 : Heap) (locs1 : List Loc), post G' → gS A H0 Z.1 cls G' H1 locs1 → W p l e R s m args below meth c H1 locs1 (cells + mc) (slots + ms) Q (F0 m (pc + 3) ls rest)) : W p l e R s m args below meth c H locs cells slots Q (F0 m pc ls st0) :=
  vx_callv hr hG.2.2.1 (fun q _ h => hG.free q h) hG.free (fun q h1 h2 => absurd h2 (Nat.not_le.mpr h1))
    (fun E ce q9 u t H1 locs1 ht _ _ hB hz1 hk1 hS h9 hv hcl => kx E ce q9 H1 locs1 hB ⟨hG.1.kept (fun q h => hk1 q h (Nat.not_le.mpr h)), hG.2.1, hS, hG.2.2.2⟩ h9 hv hcl)
    (fun u t H1 locs1 ht _ hp hB _ _ hS => kk u H1 locs1 hp (hG.back (by rw [← ht]; exact hB.1) hB.2 hS))
/-- a static call of a method with a table -/
theorem g_runSW (S : CallFix p m c cc nL s args Gall own) (L : gLS own index y n) (k0 : Cond.codeWith y bytes maxL ret hh ∈ Gall) (hM : Met l y (Cond.codeWith y bytes maxL ret hh :: Gall) rm Pc Qc mc ms free) (hrm : rm.cells = mc ∧ rm.slots = ms) (hR : rm.frames + 1 ≤ R.frames ∧ 8 + (maxL + 11) + rm.locals ≤ R.locals) (hp : PreS s H Pc As) (hn : As.length = n) (hsize : ls.size = nL) (hst : st0 = As.reverse ++ rest) (hW : (rest.map fun v => v.category).sum ≤ 8) (hdg : decode cc pc = .ok (.invokestatic index, 3)) (hf : cells + mc ≤ R.cells ∧ slots + ms ≤ R.slots) :
    va_Run p l e R s m args below meth c H locs cells slots mc ms (F0 m pc ls st0) rest (Qc As.toArray) free :=
  vx_runSW (g := F0 m pc ls st0) (hh := hh) (bytes := bytes) (maxL := maxL) (ret := ret) S hM ⟨⟨hrm.1, hrm.2, hR.1, hR.2, pay_in S.2.2.2.2 (gg1 k0), List.mem_cons_self⟩, S.2.2.2.2 _ k0, S.2.2.2.2 _ L.2.2.1, ⟨L.2.2.2.1, L.2.2.2.2.1⟩, fun sig h => by have h2 := L.2.2.2.2.2; rw [h] at h2; exact (Option.some.inj h2).symm, S.2.2.2.2 _ L.1, S.2.2.2.2 _ L.2.1⟩ hp rfl hn hsize hst (lv_room hW) hdg hf
end GCLS
