/-! Counting. -/
def cnt (Q : Nat → Prop) [DecidablePred Q] (n : Nat) : Nat := itr (fun k a => if Q k then a + 1 else a) 0 n
theorem cnt_le (Q : Nat → Prop) [DecidablePred Q] : ∀ n, cnt Q n ≤ n
  | 0 => Nat.le_refl _
  | n + 1 => by have := cnt_le Q n; show (if Q n then cnt Q n + 1 else cnt Q n) ≤ _; split <;> omega
theorem cnt_pos (Q : Nat → Prop) [DecidablePred Q] : ∀ n, 0 < cnt Q n ↔ ∃ i, i < n ∧ Q i
  | 0 => by constructor
            · intro h; exact absurd h (by show ¬ 0 < 0; omega)
            · rintro ⟨i, hi, _⟩; omega
  | n + 1 => by
    have ih := cnt_pos Q n
    show 0 < (if Q n then cnt Q n + 1 else cnt Q n) ↔ _
    by_cases h : Q n
    · rw [if_pos h]; exact ⟨fun _ => ⟨n, by omega, h⟩, fun _ => by omega⟩
    · rw [if_neg h, ih]
      constructor
      · rintro ⟨i, hi, hq⟩; exact ⟨i, by omega, hq⟩
      · rintro ⟨i, hi, hq⟩
        by_cases e : i = n
        · subst e; exact absurd hq h
        · exact ⟨i, by omega, hq⟩
theorem cnt_ex (Q : Nat → Prop) [DecidablePred Q] (p : Nat) (hp : Q p) : ∀ n, cnt Q n = (if p < n then 1 else 0) + cnt (fun k => k ≠ p ∧ Q k) n
  | 0 => rfl
  | n + 1 => by
    have ih := cnt_ex Q p hp n
    have e1 : cnt Q (n + 1) = if Q n then cnt Q n + 1 else cnt Q n := rfl
    have e2 : cnt (fun k => k ≠ p ∧ Q k) (n + 1) = if n ≠ p ∧ Q n then cnt (fun k => k ≠ p ∧ Q k) n + 1 else cnt (fun k => k ≠ p ∧ Q k) n := rfl
    rw [e1, e2, ih]
    generalize cnt (fun k => k ≠ p ∧ Q k) n = c
    by_cases e : n = p
    · have h2 : ¬ p < n := by omega
      have h3 : p < n + 1 := by omega
      have h4 : Q n := by rw [e]; exact hp
      have h5 : ¬ (n ≠ p ∧ Q n) := fun z => z.1 e
      simp only [if_neg h2, if_pos h3, if_pos h4, if_neg h5]; omega
    · by_cases h : Q n
      · have h5 : n ≠ p ∧ Q n := ⟨e, h⟩
        by_cases h2 : p < n
        · have h3 : p < n + 1 := by omega
          simp only [if_pos h2, if_pos h3, if_pos h, if_pos h5]; omega
        · have h3 : ¬ p < n + 1 := by omega
          simp only [if_neg h2, if_neg h3, if_pos h, if_pos h5]; omega
      · have h5 : ¬ (n ≠ p ∧ Q n) := fun z => h z.2
        by_cases h2 : p < n
        · have h3 : p < n + 1 := by omega
          simp only [if_pos h2, if_pos h3, if_neg h, if_neg h5]
        · have h3 : ¬ p < n + 1 := by omega
          simp only [if_neg h2, if_neg h3, if_neg h, if_neg h5]
theorem cnt_two (Q : Nat → Prop) [DecidablePred Q] {p n : Nat} (hp : Q p) (hn : p < n) : 1 < cnt Q n ↔ ∃ i, i < n ∧ i ≠ p ∧ Q i := by
  rw [cnt_ex Q p hp n, if_pos hn]
  have := cnt_pos (fun k => k ≠ p ∧ Q k) n
  constructor
  · intro h
    obtain ⟨i, hi, h1, h2⟩ := this.mp (by omega)
    exact ⟨i, hi, h1, h2⟩
  · rintro ⟨i, hi, h1, h2⟩
    have := this.mpr ⟨i, hi, h1, h2⟩
    omega
theorem cntF_cnt (pt : Nat → Option Nat) (pd : Nat → Pat) (b : Int32) (n : Nat) : cntF pt pd b n = cnt (fun k => (prN pt pd k).isSome = true ∧ ¬ pfa (pd k) &&& b = 0) n := rfl
theorem cntF_le (pt : Nat → Option Nat) (pd : Nat → Pat) (b : Int32) (n : Nat) : cntF pt pd b n ≤ n := cnt_le _ n
theorem tb_orF (pt : Nat → Option Nat) (pd : Nat → Pat) (y : Int32) (f : Nat) : ∀ n, tb (orF pt pd y n) f = true ↔ ∃ i, i < n ∧ (prN pt pd i).isSome = true ∧ nI i ≠ y ∧ tb (pfa (pd i)) f = true
  | 0 => by
    constructor
    · intro h
      have h9 : tb 0 f = true := h
      rw [tb_0] at h9; cases h9
    · rintro ⟨i, hi, _⟩; omega
  | n + 1 => by
    have ih := tb_orF pt pd y f n
    have e1 : orF pt pd y (n + 1) = if (prN pt pd n).isSome ∧ nI n ≠ y then orF pt pd y n ||| pfa (pd n) else orF pt pd y n := rfl
    rw [e1]
    by_cases h : (prN pt pd n).isSome ∧ nI n ≠ y
    · rw [if_pos h, tb_or]
      constructor
      · intro h2
        rcases (by simpa using h2 : tb (orF pt pd y n) f = true ∨ tb (pfa (pd n)) f = true) with h3 | h3
        · obtain ⟨i, hi, h4⟩ := ih.mp h3; exact ⟨i, by omega, h4⟩
        · exact ⟨n, by omega, h.1, h.2, h3⟩
      · rintro ⟨i, hi, h4⟩
        by_cases e : i = n
        · subst e; rw [h4.2.2]; simp
        · rw [ih.mpr ⟨i, by omega, h4⟩]; simp
    · rw [if_neg h, ih]
      constructor
      · rintro ⟨i, hi, h4⟩; exact ⟨i, by omega, h4⟩
      · rintro ⟨i, hi, h4⟩
        by_cases e : i = n
        · subst e; exact absurd ⟨h4.1, h4.2.1⟩ h
        · exact ⟨i, by omega, h4⟩
section PURE
variable {C E M : Nat} {pt : Nat → Option Nat} {pd : Nat → Pat} {cf mf ff gf sf : Nat → Int32}
/-- a pattern is needless -/
theorem sNeed (h : Sim C E M pt pd cf mf ff gf sf) {p : Nat} (hp : p < M) (hg : gf p = 0) : (∀ f, f < 31 → (ff (31 * p + f) = 0 ∨ 1 < cntF pt pd (on1 f) 24)) ↔ pfa (pd p) &&& (orF pt pd (nI p) 24 ^^^ (-1)) = 0 := by
  have hM := h.1
  have hS := h.2.2.2.2.1 p hp hg
  have hpr := (h.pr (show p < 24 by omega)).mpr ⟨hp, hg⟩
  rw [and_0]
  have key : ∀ f, f < 31 → tb (pfa (pd p)) f = true → (1 < cntF pt pd (on1 f) 24 ↔ tb (orF pt pd (nI p) 24) f = true) := by
    intro f hf ht
    rw [cntF_cnt, cnt_two _ (p := p) ⟨hpr, by rw [and_on1 _ (by omega), ht]; simp⟩ (by omega), tb_orF]
    constructor
    · rintro ⟨i, hi, hne, h1, h2⟩
      rw [and_on1 _ (by omega)] at h2
      exact ⟨i, hi, h1, fun z => hne ((nI_eq (by omega) (by omega)).mp z), by simpa using h2⟩
    · rintro ⟨i, hi, h1, hne, h2⟩
      exact ⟨i, hi, fun z => hne (by rw [z]), h1, by rw [and_on1 _ (by omega), h2]; simp⟩
  constructor
  · intro ha k hk ht
    rw [tb_not _ hk]
    have hk31 : k < 31 := by
      rcases Nat.lt_or_ge k 31 with z | z
      · exact z
      · rw [show k = 31 by omega, hS.2.2.2.2.1] at ht; cases ht
    rcases ha k hk31 with h1 | h1
    · rw [hS.2.2.2.1 k hk31, zb_eq, ht] at h1; cases h1
    · rw [(key k hk31 ht).mp h1]; rfl
  · intro ha f hf
    cases ht : tb (pfa (pd p)) f with
    | false => exact Or.inl (by rw [hS.2.2.2.1 f hf, ht]; rfl)
    | true =>
      have := ha f (by omega) ht
      rw [tb_not _ (by omega)] at this
      exact Or.inr ((key f hf ht).mpr (by simpa using this))
theorem drS_stop {k : Nat} (hk : k ≤ 24) (hM : ∀ i, M ≤ i → i < 24 → pt i = none) (hMk : M ≤ k) : drS pt k pd = drS pt M pd := by
  induction k with
  | zero => rw [show M = 0 by omega]
  | succ k ih =>
    by_cases e : M = k + 1
    · rw [e]
    · have h1 : (prN pt pd k).isSome = false := by unfold prN; rw [hM k (by omega) (by omega)]; rfl
      show drS pt k (if (prN pt pd k).isSome ∧ _ then _ else pd) = _
      rw [if_neg (fun z => by rw [h1] at z; cases z.1)]
      exact ih (by omega) (by omega)
theorem sDrS (h : Sim C E M pt pd cf mf ff gf sf) : drS pt 24 pd = drS pt M pd := drS_stop (Nat.le_refl _) h.2.2.1 h.1
/-- faults found at all -/
theorem sFany (h : Sim C E M pt pd cf mf ff gf sf) {f : Nat} (hf : f < 31) : 0 < cntF pt pd (on1 f) 24 ↔ tb (orF pt pd (-1) 24) f = true := by
  rw [cntF_cnt, cnt_pos, tb_orF]
  constructor
  · rintro ⟨i, hi, h1, h2⟩
    rw [and_on1 _ (by omega)] at h2
    exact ⟨i, hi, h1, fun z => absurd (show nI i < 0 by rw [z]; decide) (nI_pos (by omega)), by simpa using h2⟩
  · rintro ⟨i, hi, h1, -, h2⟩
    exact ⟨i, hi, h1, by rw [and_on1 _ (by omega), h2]; simp⟩
theorem sF31 (h : Sim C E M pt pd cf mf ff gf sf) : tb (orF pt pd (-1) 24) 31 = false := by
  cases hb : tb (orF pt pd (-1) 24) 31 with
  | false => rfl
  | true =>
    obtain ⟨i, hi, h1, -, h2⟩ := (tb_orF pt pd (-1) 31 24).mp hb
    obtain ⟨h3, h4⟩ := (h.pr hi).mp h1
    rw [(h.2.2.2.2.1 i h3 h4).2.2.2.2.1] at h2
    cases h2
def cFf (pt : Nat → Option Nat) (pd : Nat → Pat) (n : Nat) : Nat := itr (fun f a => if 0 < cntF pt pd (on1 f) 24 then a + 1 else a) 0 n
theorem sCF (h : Sim C E M pt pd cf mf ff gf sf) : bcnt (orF pt pd (-1) 24) = nI (cFf pt pd 31) := by
  rw [bcnt_pp]
  congr 1
  show (if tb (orF pt pd (-1) 24) 31 = true then _ else itr (fun k a => if tb (orF pt pd (-1) 24) k = true then a + 1 else a) 0 31) = _
  rw [sF31 h, if_neg (by decide)]
  refine itr_congr 31 (fun k hk a => ?_)
  have := sFany h hk
  by_cases e : 0 < cntF pt pd (on1 k) 24
  · rw [if_pos e, if_pos (this.mp e)]
  · rw [if_neg e, if_neg (fun z => e (this.mpr z))]
def cCf (cf : Nat → Int32) (i n : Nat) : Nat := itr (fun k a => if cf (32 * i + k) = -1 then a else a + 1) 0 n
theorem sCC (h : Sim C E M pt pd cf mf ff gf sf) {i : Nat} (hi : i < M) (hg : gf i = 0) : bcnt (pca (pd i)) = nI (cCf cf i 32) := by
  rw [bcnt_pp]
  congr 1
  refine itr_congr 32 (fun k hk a => ?_)
  rw [(h.2.2.2.2.1 i hi hg).2.1 k hk]
  by_cases e : cvC (pd i) k = -1
  · rw [if_pos e, cv_no e]; rfl
  · rw [if_neg e, (cv_zb e).1]; rfl
/-- two patterns joined -/
theorem cv_take {P Q : Pat} {k : Nat} (h1 : tb (pva P) k = true → tb (pca P) k = true) (h2 : tb (pva Q) k = true → tb (pca Q) k = true) (hg : gtC (cvC P k) (cvC Q k)) : cvC (qtake P Q) k = if cvC Q k = -1 then cvC P k else cvC Q k := by
  have e1 : pca (qtake P Q) = pca P ||| pca Q := rfl
  have e2 : pva (qtake P Q) = pva P ||| pva Q := rfl
  revert hg h1 h2
  unfold gtC cvC
  rw [e1, e2, tb_or, tb_or]
  generalize tb (pca P) k = a
  generalize tb (pca Q) k = b
  generalize tb (pva P) k = c
  generalize tb (pva Q) k = d
  cases a <;> cases b <;> cases c <;> cases d <;> decide
theorem Sim.take {cf' mf' ff' : Nat → Int32} (h : Sim C E M pt pd cf mf ff gf sf) {p q : Nat} (hp : p < M) (hq : q < M) (hpq : p ≠ q) (hgp : gf p = 0) (hgq : gf q = 0) (hgo : ¬ gowC (pca (pd p)) (pva (pd p)) (pca (pd q)) (pva (pd q)) = 0)
    (hc : ∀ k, k < 32 → cf' (32 * p + k) = if cf (32 * q + k) = -1 then cf (32 * p + k) else cf (32 * q + k)) (hc2 : ∀ j, j < 32 * p ∨ 32 * p + 32 ≤ j → cf' j = cf j)
    (hm : ∀ k, k < 32 → mf' (32 * p + k) = if ¬ mf (32 * p + k) = 0 ∨ ¬ mf (32 * q + k) = 0 then 1 else 0) (hm2 : ∀ j, j < 32 * p ∨ 32 * p + 32 ≤ j → mf' j = mf j)
    (hf : ∀ k, k < 31 → ff' (31 * p + k) = if ¬ ff (31 * p + k) = 0 ∨ ¬ ff (31 * q + k) = 0 then 1 else 0) (hf2 : ∀ j, j < 31 * p ∨ 31 * p + 31 ≤ j → ff' j = ff j) :
    Sim C E M pt (va_up (va_up pd p (qtake (pd p) (pd q))) q (qgn (pd q) 1)) cf' mf' ff' (upd gf q 1) (upd sf p (-1)) := by
  have hP := h.2.2.2.2.1 p hp hgp
  have hQ := h.2.2.2.2.1 q hq hgq
  have hgt := (gow_cv _ _).mp hgo
  have s1 : Sim C E M pt (va_up pd p (qtake (pd p) (pd q))) cf' mf' ff' gf (upd sf p (-1)) := by
    refine h.up hp hgp (P' := qtake (pd p) (pd q)) ⟨pk_us, fun k hk => ?_, fun k hk => ?_, fun k hk => ?_, ?_, fun k hk => ?_, fun k hk => ?_⟩ rfl hc2 hm2 hf2 (fun j hj => pk_un hj)
    · rw [hc k hk, hP.2.1 k hk, hQ.2.1 k hk, cv_take (hP.2.2.2.2.2.1 k hk) (hQ.2.2.2.2.2.1 k hk) (hgt k hk)]
    · rw [hm k hk, hP.2.2.1 k hk, hQ.2.2.1 k hk]
      show _ = zb (tb (pmk (pd p) ||| pmk (pd q)) k)
      rw [tb_or]
      cases tb (pmk (pd p)) k <;> cases tb (pmk (pd q)) k <;> decide
    · rw [hf k hk, hP.2.2.2.1 k hk, hQ.2.2.2.1 k hk]
      show _ = zb (tb (pfa (pd p) ||| pfa (pd q)) k)
      rw [tb_or]
      cases tb (pfa (pd p)) k <;> cases tb (pfa (pd q)) k <;> decide
    · show tb (pfa (pd p) ||| pfa (pd q)) 31 = false
      rw [tb_or, hP.2.2.2.2.1, hQ.2.2.2.2.1]; rfl
    · show tb (pva (pd p) ||| pva (pd q)) k = true → tb (pca (pd p) ||| pca (pd q)) k = true
      rw [tb_or, tb_or]
      intro z
      rcases (by simpa using z : tb (pva (pd p)) k = true ∨ tb (pva (pd q)) k = true) with z | z
      · rw [hP.2.2.2.2.2.1 k hk z]; simp
      · rw [hQ.2.2.2.2.2.1 k hk z]; simp
    · show tb (pca (pd p) ||| pca (pd q)) k = true → _
      rw [tb_or]
      intro z
      rcases (by simpa using z : tb (pca (pd p)) k = true ∨ tb (pca (pd q)) k = true) with z | z
      · exact hP.2.2.2.2.2.2 k hk z
      · exact hQ.2.2.2.2.2.2 k hk z
  have s2 := s1.gone hq
  rw [va_up_ne _ _ (Ne.symm hpq)] at s2
  exact s2
def jnQ (pt : Nat → Option Nat) (p : Nat) (P : Nat → Pat) (n : Nat) : Nat → Pat := if (prN pt P p).isSome then tkB pt p P n else P
theorem tkS_gn {p k : Nat} {Q : Nat → Pat} (hk : k ≠ p) : pgn (tkS pt p k Q p) = pgn (Q p) := by
  unfold tkS
  split
  · rw [va_up_ne _ _ (Ne.symm hk), va_up_self]; rfl
  · rfl
theorem tkB_pr {p : Nat} {P : Nat → Pat} : ∀ n, prN pt (tkB pt p P n) p = prN pt P p
  | 0 => rfl
  | n + 1 => by
    have ih := tkB_pr (p := p) (P := P) n
    refine Eq.trans (prN_gn (pd := tkB pt p P n) ?_) ih
    show pgn (tkS pt p (p + 1 + n) (tkB pt p P n) p) = _
    exact tkS_gn (by omega)
theorem jnQ_pr {p : Nat} {P : Nat → Pat} (n : Nat) : prN pt (jnQ pt p P n) p = prN pt P p := by
  unfold jnQ
  split
  · exact tkB_pr n
  · rfl
theorem jnQ_s {p : Nat} {P : Nat → Pat} (n : Nat) : jnQ pt p P (n + 1) = if (prN pt P p).isSome then tkS pt p (p + 1 + n) (jnQ pt p P n) else jnQ pt p P n := by
  unfold jnQ
  by_cases h : (prN pt P p).isSome = true
  · rw [if_pos h, if_pos h, if_pos h]; rfl
  · rw [if_neg h, if_neg h, if_neg h]
theorem joinD_jn (pt : Nat → Option Nat) (pd : Nat → Pat) (p : Nat) : joinD pt pd (p + 1) = jnQ pt p (joinD pt pd p) (23 - p) := rfl
theorem jnQ_stop {p : Nat} {P : Nat → Pat} (hM : ∀ i, M ≤ i → i < 24 → pt i = none) (hp : p < M) (hM24 : M ≤ 24) : jnQ pt p P (23 - p) = jnQ pt p P (M - (p + 1)) := by
  unfold jnQ
  split
  · refine itr_stop (by omega) (fun k h1 h2 Q => ?_)
    unfold tkS
    rw [if_neg]
    intro z
    have : (prN pt Q (p + 1 + k)).isSome = false := by unfold prN; rw [hM _ (by omega) (by omega)]; rfl
    rw [this] at z
    cases z.1
  · rfl
theorem joinD_stop (hM : ∀ i, M ≤ i → i < 24 → pt i = none) (hM24 : M ≤ 24) : joinD pt pd 24 = joinD pt pd M := by
  refine itr_stop hM24 (fun k h1 h2 Q => ?_)
  have : (prN pt Q k).isSome = false := by unfold prN; rw [hM _ h1 h2]; rfl
  simp [this]
end PURE
theorem allStep {A : Nat → Prop} {k : Nat} {b b' : Int32} (h : (b = 1 ∧ ∀ i, i < k → A i) ∨ (b = 0 ∧ ¬ ∀ i, i < k → A i)) (h' : (b' = 1 ∧ ¬ b = 0 ∧ A k) ∨ (b' = 0 ∧ (b = 0 ∨ ¬ A k))) : (b' = 1 ∧ ∀ i, i < k + 1 → A i) ∨ (b' = 0 ∧ ¬ ∀ i, i < k + 1 → A i) := by
  rcases h' with ⟨h1, h2, h3⟩ | ⟨h1, h2⟩
  · rcases h with ⟨h4, h5⟩ | ⟨h4, h5⟩
    · refine Or.inl ⟨h1, fun i hi => ?_⟩
      by_cases e : i = k
      · subst e; exact h3
      · exact h5 i (by omega)
    · exact absurd h4 h2
  · refine Or.inr ⟨h1, fun hall => ?_⟩
    rcases h2 with h2 | h2
    · rcases h with ⟨h4, h5⟩ | ⟨h4, h5⟩
      · rw [h4] at h2; exact absurd h2 (by decide)
      · exact h5 (fun i hi => hall i (by omega))
    · exact h2 (hall k (by omega))
/-! The greatest divisor. -/
theorem lN0 {n : Nat} (h : n < 2 ^ 63) : lN n = 0 ↔ n = 0 := pk_lEQ (b := 0) h (by omega)
theorem gdC_gcd : ∀ m x y : Nat, y ≤ x → x < 2 ^ m → x < 2 ^ 63 → gdC (2 * m) (lN x) (lN y) = lN (Nat.gcd x y)
  | 0, x, y, h1, h2, _ => by
    have : x = 0 := by simpa using h2
    subst this
    rw [show y = 0 by omega]
    rfl
  | m + 1, x, y, h1, h2, h3 => by
    show (if lN y = 0 then lN x else (if lN x - lN x / lN y * lN y = 0 then lN y else gdC (2 * m) (lN x - lN x / lN y * lN y) (lN y - lN y / (lN x - lN x / lN y * lN y) * (lN x - lN x / lN y * lN y)))) = _
    by_cases hy : y = 0
    · rw [if_pos ((lN0 (by omega)).mpr hy), hy, Nat.gcd_zero_right]
    · have hy0 : 0 < y := by omega
      rw [if_neg (fun z => hy ((lN0 (by omega)).mp z)), pk_lRem h3 hy0 (by omega)]
      have hm : x % y < y := Nat.mod_lt _ hy0
      have hm2 : 2 * (x % y) < x ∨ x % y = 0 := by
        have hd := Nat.div_add_mod x y
        have hq : 1 ≤ x / y := (Nat.le_div_iff_mul_le hy0).mpr (by omega)
        have : y * 1 ≤ y * (x / y) := Nat.mul_le_mul_left y hq
        omega
      by_cases hz : x % y = 0
      · rw [if_pos ((lN0 (by omega)).mpr hz), Nat.gcd_comm, Nat.gcd_rec, hz, Nat.gcd_zero_left]
      · rw [if_neg (fun z => hz ((lN0 (by omega)).mp z)), pk_lRem (by omega) (by omega) (by omega)]
        rw [gdC_gcd m (x % y) (y % (x % y)) (Nat.le_of_lt (Nat.mod_lt _ (by omega))) (by rw [Nat.pow_succ] at h2; omega) (by omega)]
        congr 1
        rw [Nat.gcd_comm x y, Nat.gcd_rec y x, Nat.gcd_rec (x % y) y, Nat.gcd_comm]
theorem gcdC_gcd {x y : Nat} (h1 : y ≤ x) (h0 : 0 < x) (h2 : x < 2 ^ 63) : gcdC (lN x) (lN y) = lN (Nat.gcd x y) := by
  have e := gdC_gcd 64 x y h1 (Nat.lt_trans h2 (by decide)) h2
  unfold gcdC
  rw [show 128 = 2 * 64 from rfl, e]
  have hp : 0 < Nat.gcd x y := Nat.gcd_pos_of_pos_left _ h0
  have hl : Nat.gcd x y ≤ x := Nat.gcd_le_left _ h0
  rw [if_neg]
  intro z
  have := (pk_lLT (b := 1) (by omega) (by omega)).mp z
  omega
