/-! What the reference's arrays are to the class's numbers. -/
def cvC (P : Pat) (k : Nat) : Int32 := if tb (pca P) k then (if tb (pva P) k then 1 else 0) else -1
theorem carC_on1 (P : Pat) {k : Nat} (hk : k < 32) : carC (pca P) (pva P) (on1 k) = cvC P k := by
  unfold carC cvC
  by_cases h : pca P &&& on1 k = 0
  · rw [if_pos h, (and_on1 _ hk).mp h]; rfl
  · rw [if_neg h]
    have h1 : tb (pca P) k = true := by
      cases hb : tb (pca P) k with
      | true => rfl
      | false => exact absurd ((and_on1 _ hk).mpr hb) h
    rw [h1]
    by_cases h2 : pva P &&& on1 k = 0
    · rw [if_pos h2, (and_on1 _ hk).mp h2]; rfl
    · rw [if_neg h2]
      have h3 : tb (pva P) k = true := by
        cases hb : tb (pva P) k with
        | true => rfl
        | false => exact absurd ((and_on1 _ hk).mpr hb) h2
      rw [h3]; rfl
def zb (b : Bool) : Int32 := if b then 1 else 0
theorem zb_ne (b : Bool) : zb b ≠ 0 ↔ b = true := by cases b <;> decide
theorem zb_eq (b : Bool) : zb b = 0 ↔ b = false := by cases b <;> decide
def simP (C E : Nat) (P : Pat) (sd : Int32) (cf mf ff : Nat → Int32) (i : Nat) : Prop :=
  sd = psd P ∧ (∀ k, k < 32 → cf (32 * i + k) = cvC P k) ∧ (∀ k, k < 32 → mf (32 * i + k) = zb (tb (pmk P) k)) ∧ (∀ k, k < 31 → ff (31 * i + k) = zb (tb (pfa P) k)) ∧ tb (pfa P) 31 = false ∧ (∀ k, k < 32 → tb (pva P) k = true → tb (pca P) k = true) ∧ (∀ k, k < 32 → tb (pca P) k = true → k / 8 < C ∧ k % 8 < E)
def Sim (C E M : Nat) (pt : Nat → Option Nat) (pd : Nat → Pat) (cf mf ff gf sf : Nat → Int32) : Prop :=
  M ≤ 24 ∧ (∀ i, i < M → (pt i).isSome = true) ∧ (∀ i, M ≤ i → i < 24 → pt i = none) ∧ (∀ i, i < M → (gf i = 0 ↔ pgn (pd i) = 0)) ∧ (∀ i, i < M → gf i = 0 → simP C E (pd i) (sf i) cf mf ff i) ∧ (∀ i, M ≤ i → i < 24 → gf i = 0 ∧ (∀ k, k < 32 → mf (32 * i + k) = 0) ∧ ∀ k, k < 31 → ff (31 * i + k) = 0)
theorem Sim.pr {C E M : Nat} {pt : Nat → Option Nat} {pd : Nat → Pat} {cf mf ff gf sf : Nat → Int32} (h : Sim C E M pt pd cf mf ff gf sf) {i : Nat} (hi : i < 24) : (prN pt pd i).isSome = true ↔ i < M ∧ gf i = 0 := by
  unfold prN
  by_cases hM : i < M
  · have h1 := h.2.1 i hM
    have h2 := h.2.2.2.1 i hM
    cases hp : pt i with
    | none => rw [hp] at h1; cases h1
    | some a =>
      by_cases hg : pgn (pd i) = 0
      · simp [hg, hM, h2.mpr hg]
      · simp [hg]
        intro _ z
        exact hg (h2.mp z)
  · rw [h.2.2.1 i (by omega) hi]
    simp [hM]
theorem Sim.ok {C E M : Nat} {pt : Nat → Option Nat} {pd : Nat → Pat} {cf mf ff gf sf : Nat → Int32} (h : Sim C E M pt pd cf mf ff gf sf) {n : Int32} {j : Nat} : okP pt pd n j ↔ n = nI j ∧ j < M ∧ gf j = 0 := by
  have := h.1
  constructor
  · intro h1
    exact ⟨h1.2.1, (h.pr h1.1).mp h1.2.2⟩
  · intro h1
    exact ⟨by omega, h1.1, (h.pr (by omega)).mpr h1.2⟩
def simT (D : Nat) (tp : Int32) (tf : Nat → Int32) : Prop := 1 ≤ D ∧ D ≤ 16 ∧ (∀ k, k < 16 → tf k = zb (tb tp k)) ∧ ∀ k, D ≤ k → k < 32 → tb tp k = false
theorem itr_add {α : Type} (f : Nat → α → α) (a : α) (m : Nat) : ∀ n, itr f a (m + n) = itr (fun k => f (m + k)) (itr f a m) n
  | 0 => rfl
  | n + 1 => by rw [← Nat.add_assoc, itr_s, itr_add f a m n, itr_s]
theorem itr_id {α : Type} {f : Nat → α → α} {a : α} : ∀ n, (∀ k, k < n → ∀ x, f k x = x) → itr f a n = a
  | 0, _ => rfl
  | n + 1, h => by rw [itr_s, itr_id n (fun k hk => h k (by omega)), h n (by omega)]
/-- a count stops growing where nothing more is there -/
theorem itr_stop {α : Type} {f : Nat → α → α} {a : α} {m n : Nat} (hmn : m ≤ n) (h : ∀ k, m ≤ k → k < n → ∀ x, f k x = x) : itr f a n = itr f a m := by
  obtain ⟨d, rfl⟩ : ∃ d, n = m + d := ⟨n - m, by omega⟩
  rw [itr_add]
  exact itr_id d (fun k hk x => h (m + k) (by omega) (by omega) x)
theorem Sim.no {C E M : Nat} {pt : Nat → Option Nat} {pd : Nat → Pat} {cf mf ff gf sf : Nat → Int32} (h : Sim C E M pt pd cf mf ff gf sf) {i : Nat} (h1 : M ≤ i) (h2 : i < 24) : (prN pt pd i).isSome = false := by
  cases hb : (prN pt pd i).isSome with
  | false => rfl
  | true => have := ((h.pr h2).mp hb).1; omega
theorem Sim.cntP {C E M : Nat} {pt : Nat → Option Nat} {pd : Nat → Pat} {cf mf ff gf sf : Nat → Int32} (h : Sim C E M pt pd cf mf ff gf sf) : cntP pt pd 24 = cntP pt pd M :=
  itr_stop h.1 (fun k h1 h2 x => by simp [h.no h1 h2])
theorem Sim.cntS {C E M : Nat} {pt : Nat → Option Nat} {pd : Nat → Pat} {cf mf ff gf sf : Nat → Int32} (h : Sim C E M pt pd cf mf ff gf sf) : cntS pt pd 24 = cntS pt pd M :=
  itr_stop h.1 (fun k h1 h2 x => by simp [h.no h1 h2])
theorem Sim.cntC {C E M : Nat} {pt : Nat → Option Nat} {pd : Nat → Pat} {cf mf ff gf sf : Nat → Int32} (h : Sim C E M pt pd cf mf ff gf sf) : cntC pt pd 24 = cntC pt pd M :=
  itr_stop h.1 (fun k h1 h2 x => by simp [h.no h1 h2])
theorem Sim.cntF {C E M : Nat} {pt : Nat → Option Nat} {pd : Nat → Pat} {cf mf ff gf sf : Nat → Int32} (h : Sim C E M pt pd cf mf ff gf sf) (b : Int32) : cntF pt pd b 24 = cntF pt pd b M :=
  itr_stop h.1 (fun k h1 h2 x => by simp [h.no h1 h2])
theorem Sim.orF {C E M : Nat} {pt : Nat → Option Nat} {pd : Nat → Pat} {cf mf ff gf sf : Nat → Int32} (h : Sim C E M pt pd cf mf ff gf sf) (b : Int32) : orF pt pd b 24 = orF pt pd b M :=
  itr_stop h.1 (fun k h1 h2 x => by simp [h.no h1 h2])
theorem Sim.fnd {C E M : Nat} {pt : Nat → Option Nat} {pd : Nat → Pat} {cf mf ff gf sf : Nat → Int32} (h : Sim C E M pt pd cf mf ff gf sf) {i f : Nat} (hi : i < M) (hf : f < 31) : ((prN pt pd i).isSome = true ∧ ¬ pfa (pd i) &&& on1 f = 0) ↔ (gf i = 0 ∧ ¬ ff (31 * i + f) = 0) := by
  have hM := h.1
  rw [h.pr (by omega)]
  constructor
  · intro ⟨⟨_, hg⟩, h2⟩
    refine ⟨hg, ?_⟩
    rw [(h.2.2.2.2.1 i hi hg).2.2.2.1 f hf, zb_eq]
    rw [and_on1 _ (by omega)] at h2
    exact h2
  · intro ⟨hg, h2⟩
    refine ⟨⟨hi, hg⟩, ?_⟩
    rw [(h.2.2.2.2.1 i hi hg).2.2.2.1 f hf, zb_eq] at h2
    rw [and_on1 _ (by omega)]
    exact h2
/-- two patterns go together -/
def gtC (x y : Int32) : Prop := x = -1 ∨ y = -1 ∨ x = y
theorem gow_cv (P Q : Pat) : (¬ gowC (pca P) (pva P) (pca Q) (pva Q) = 0) ↔ ∀ k, k < 32 → gtC (cvC P k) (cvC Q k) := by
  have h1 : (¬ gowC (pca P) (pva P) (pca Q) (pva Q) = 0) ↔ (pca P &&& pca Q) &&& (pva P ^^^ pva Q) = 0 := by
    unfold gowC
    split <;> simp_all
  rw [h1, and_0]
  constructor
  · intro h k hk
    have := h k hk
    rw [tb_and, tb_xor] at this
    unfold gtC cvC
    cases h1 : tb (pca P) k <;> cases h2 : tb (pca Q) k <;> cases h3 : tb (pva P) k <;> cases h4 : tb (pva Q) k <;> simp_all
  · intro h k hk
    have := h k hk
    rw [tb_and, tb_xor]
    unfold gtC cvC at this
    cases h1 : tb (pca P) k <;> cases h2 : tb (pca Q) k <;> cases h3 : tb (pva P) k <;> cases h4 : tb (pva Q) k <;> simp_all
/-- the machine's step -/
def stI (tf : Nat → Int32) (x : Int32) (n : Nat) : Int32 := itr (fun k a => if tf k = 0 then a else a ^^^ ((x >>> (nI k &&& 31)) &&& 1)) 0 n
theorem nI_and1 (n : Nat) (h : n < 2 ^ 32) : nI n &&& 1 = nI (n % 2) := pk_andN h 1 (by decide +kernel)
theorem stI_pp {D : Nat} {tp : Int32} {tf : Nat → Int32} (hT : simT D tp tf) (x : Int32) : ∀ n, n ≤ D → stI tf x n = nI (itr (fun k a => if tb (x &&& tp) k then a + 1 else a) 0 n % 2)
  | 0, _ => rfl
  | n + 1, h => by
    have ih := stI_pp hT x n (by omega)
    have hD := hT.2.1
    unfold stI at ih ⊢
    rw [itr_s, itr_s, ih, shr1 x (by omega), hT.2.2.1 n (by omega), tb_and]
    generalize itr (fun k a => if tb (x &&& tp) k = true then a + 1 else a) 0 n = m
    have e0 : m % 2 = 0 ∨ m % 2 = 1 := by omega
    cases tb tp n <;> cases tb x n <;> simp [zb]
    rcases e0 with e | e
    · rw [e, show (m + 1) % 2 = 1 by omega]; decide
    · rw [e, show (m + 1) % 2 = 0 by omega]; decide
theorem stI_eq {D : Nat} {tp : Int32} {tf : Nat → Int32} (hT : simT D tp tf) (x : Int32) : stI tf x D = bcnt (x &&& tp) &&& 1 := by
  have hD := hT.2.1
  rw [stI_pp hT x D (Nat.le_refl _), bcnt_pp, nI_and1]
  · congr 2
    unfold ppI
    refine (itr_stop (m := D) (n := 32) (by omega) ?_).symm
    intro k h1 h2 a
    rw [tb_and, hT.2.2.2 k h1 h2]
    simp
  · have : ∀ n, itr (fun k a => if tb (x &&& tp) k = true then a + 1 else a) 0 n ≤ n := by
      intro n
      induction n with
      | zero => exact Nat.le_refl _
      | succ n ih => rw [itr_s]; split <;> omega
    have := this 32
    unfold ppI
    omega
