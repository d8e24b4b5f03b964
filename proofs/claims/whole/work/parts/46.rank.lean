/-! The machine's step, bit by bit; what its states span. -/
def parB (x : Int32) : Bool := itr (fun k b => b ^^ tb x k) false 32
theorem parB_pp (x : Int32) : ∀ n, decide (itr (fun k a => if tb x k then a + 1 else a) 0 n % 2 = 1) = itr (fun k b => b ^^ tb x k) false n
  | 0 => rfl
  | n + 1 => by
    rw [itr_s, itr_s, ← parB_pp x n]
    generalize itr (fun k a => if tb x k = true then a + 1 else a) 0 n = m
    cases tb x n
    · simp
    · simp only [if_true]
      rcases (show m % 2 = 0 ∨ m % 2 = 1 by omega) with e | e
      · rw [e, show (m + 1) % 2 = 1 by omega]; rfl
      · rw [e, show (m + 1) % 2 = 0 by omega]; rfl
theorem ppI_le (x : Int32) : ppI x ≤ 32 := by
  have : ∀ n, itr (fun k a => if tb x k = true then a + 1 else a) 0 n ≤ n := by
    intro n
    induction n with
    | zero => exact Nat.le_refl _
    | succ n ih => rw [itr_s]; split <;> omega
  exact this 32
theorem bc1 (x : Int32) : bcnt x &&& 1 = zb (parB x) := by
  rw [bcnt_pp, nI_and1 _ (by have := ppI_le x; omega)]
  unfold parB
  rw [← parB_pp x 32]
  show nI (ppI x % 2) = zb (decide (ppI x % 2 = 1))
  rcases (show ppI x % 2 = 0 ∨ ppI x % 2 = 1 by omega) with e | e
  · rw [e]; rfl
  · rw [e]; rfl
theorem parB_xor (x y : Int32) : parB (x ^^^ y) = (parB x ^^ parB y) := by
  unfold parB
  have : ∀ n, itr (fun k b => b ^^ tb (x ^^^ y) k) false n = (itr (fun k b => b ^^ tb x k) false n ^^ itr (fun k b => b ^^ tb y k) false n) := by
    intro n
    induction n with
    | zero => rfl
    | succ n ih =>
      rw [itr_s, itr_s, itr_s, ih, tb_xor]
      generalize itr (fun k b => b ^^ tb x k) false n = a
      generalize itr (fun k b => b ^^ tb y k) false n = b
      generalize tb x n = c
      generalize tb y n = d
      revert a b c d
      decide
  exact this 32
theorem tb_zb (b : Bool) {t : Nat} (ht : t < 32) : tb (zb b) t = (decide (t = 0) && b) := by
  have : ∀ t, t < 32 → tb 1 t = decide (t = 0) := by decide +kernel
  cases b
  · show tb 0 t = _; rw [tb_0]; simp
  · show tb 1 t = _; rw [this t ht]; simp
theorem tb_shl (x : Int32) {t : Nat} (ht : t < 32) : tb (x <<< ((1 : Int32) &&& 31)) t = (decide (1 ≤ t) && tb x (t - 1)) := by
  have h1 : (x <<< ((1 : Int32) &&& 31)).toBitVec = x.toBitVec <<< 1 := by
    rw [Int32.toBitVec_shiftLeft, show ((1 : Int32) &&& 31).toBitVec.smod 32 = 1#32 by decide]
    rfl
  unfold tb
  rw [h1, BitVec.getLsbD_shiftLeft]
  rcases Nat.eq_zero_or_pos t with e | e
  · subst e; simp
  · simp [ht, show ¬ t < 1 by omega, show 1 ≤ t by omega]
theorem tb_msk {D t : Nat} (hD : D ≤ 16) (ht : t < 32) : tb (((1 : Int32) <<< (nI D &&& 31)) - 1) t = decide (t < D) := by
  have : ∀ D, D < 17 → ∀ t, t < 32 → tb (((1 : Int32) <<< (nI D &&& 31)) - 1) t = decide (t < D) := by decide +kernel
  exact this D (by omega) t ht
theorem tb_step {D t : Nat} {tp x : Int32} (hD : D ≤ 16) (ht : t < 32) : tb (stepC (nI D) tp x) t = (decide (t < D) && ((decide (1 ≤ t) && tb x (t - 1)) || (decide (t = 0) && parB (x &&& tp)))) := by
  unfold stepC
  rw [tb_and, tb_or, tb_shl _ ht, bc1, tb_zb _ ht, tb_msk hD ht]
  exact Bool.and_comm _ _
theorem step_xor {D : Nat} {tp x y : Int32} (hD : D ≤ 16) : stepC (nI D) tp (x ^^^ y) = stepC (nI D) tp x ^^^ stepC (nI D) tp y := by
  apply tb_ext
  intro t ht
  rw [tb_xor, tb_step hD ht, tb_step hD ht, tb_step hD ht, tb_xor, show (x ^^^ y) &&& tp = (x &&& tp) ^^^ (y &&& tp) from tb_ext (fun k hk => by simp only [tb_and, tb_xor]; cases tb x k <;> cases tb y k <;> cases tb tp k <;> rfl), parB_xor]
  generalize decide (t < D) = a
  generalize tb x (t - 1) = b
  generalize tb y (t - 1) = c
  generalize parB (x &&& tp) = d
  generalize parB (y &&& tp) = e
  rcases Nat.eq_zero_or_pos t with h | h
  · subst h; cases a <;> cases d <;> cases e <;> simp
  · simp [show 1 ≤ t by omega, show ¬ t = 0 by omega]
    cases a <;> cases b <;> cases c <;> rfl
theorem sti_xor {D : Nat} {tp : Int32} (hD : D ≤ 16) (x y : Int32) : ∀ n, sti D tp (x ^^^ y) n = sti D tp x n ^^^ sti D tp y n
  | 0 => rfl
  | n + 1 => by
    show stepC (nI D) tp (sti D tp (x ^^^ y) n) = _
    rw [sti_xor hD x y n, step_xor hD]; rfl
theorem make_xor {D C E : Nat} {tp : Int32} (hD1 : 1 ≤ D) (hD : D ≤ 16) (hC : C ≤ 4) (hE : E ≤ 8) (x y : Int32) : makeC (nI D) tp C E (x ^^^ y) = makeC (nI D) tp C E x ^^^ makeC (nI D) tp C E y := by
  apply tb_ext
  intro j hj
  rw [tb_xor, tb_make hD1 hD hC hE hj, tb_make hD1 hD hC hE hj, tb_make hD1 hD hC hE hj, sti_xor hD, tb_xor]
  cases decide (j / 8 < C ∧ j % 8 < E) <;> simp
theorem sq_hi {D : Nat} {tp : Int32} (hD1 : 1 ≤ D) (hD : D ≤ 16) : ∀ i t, D ≤ t → t < 32 → tb (sqC (nI D) tp i) t = false
  | 0, t, h1, h2 => by
    show tb 1 t = false
    have := tb_zb true h2
    rw [show zb true = 1 from rfl] at this
    rw [this]; simp; omega
  | i + 1, t, h1, h2 => by
    show tb (stepC (nI D) tp (sqC (nI D) tp i)) t = false
    rw [tb_step hD h2]; simp; omega
theorem sq_top {D : Nat} {tp : Int32} (hD : D ≤ 16) : ∀ i, i < D → tb (sqC (nI D) tp i) i = true ∧ ∀ t, i < t → t < 32 → tb (sqC (nI D) tp i) t = false
  | 0, h => by
    have h9 := fun t (h2 : t < 32) => tb_zb true h2
    refine ⟨?_, fun t h1 h2 => ?_⟩
    · show tb (zb true) 0 = true; rw [h9 0 (by omega)]; rfl
    · show tb (zb true) t = false; rw [h9 t h2]; simp; omega
  | i + 1, h => by
    obtain ⟨h1, h2⟩ := sq_top (tp := tp) hD i (by omega)
    refine ⟨?_, fun t h3 h4 => ?_⟩
    · show tb (stepC (nI D) tp (sqC (nI D) tp i)) (i + 1) = true
      rw [tb_step hD (by omega), show i + 1 - 1 = i by omega, h1]; simp [h]
    · show tb (stepC (nI D) tp (sqC (nI D) tp i)) t = false
      rw [tb_step hD h4, h2 (t - 1) (by omega) (by omega)]
      simp <;> omega
def rkB (D : Nat) (tp : Int32) (i : Nat) (b : Nat → Int32) : Prop := ∀ k, k < 16 → b k = if k < i ∧ k < D then sqC (nI D) tp k else 0
def rkI (D : Nat) (tp : Int32) (i : Nat) (b : Nat → Int32) (j rk : Nat) (v : Int32) (b2 : Nat → Int32) : Prop :=
  (i < D ∧ ((i < j ∧ v = sqC (nI D) tp i ∧ rk = i ∧ b2 = b) ∨ (j ≤ i ∧ v = 0 ∧ rk = i + 1 ∧ b2 = upd b i (sqC (nI D) tp i)))) ∨ (D ≤ i ∧ rk = D ∧ b2 = b ∧ (∀ t, j ≤ t → t < 32 → tb v t = false) ∧ ∀ t, D ≤ t → t < 32 → tb v t = false)
section RANK
variable {D i k rk : Nat} {tp v : Int32} {b b2 : Nat → Int32}
theorem rk_skip (hD : D ≤ 16) (hk : k < 16) (h : rkI D tp i b (k + 1) rk v b2) (hv : tb v k = false) : rkI D tp i b k rk v b2 := by
  rcases h with ⟨h1, h2 | h2⟩ | ⟨h1, h2, h3, h4, h5⟩
  · refine Or.inl ⟨h1, Or.inl ⟨?_, h2.2⟩⟩
    rcases Nat.lt_or_ge i k with z | z
    · exact z
    · have : i = k := by omega
      subst this
      rw [h2.2.1, (sq_top hD i h1).1] at hv; cases hv
  · exact Or.inl ⟨h1, Or.inr ⟨by omega, h2.2⟩⟩
  · refine Or.inr ⟨h1, h2, h3, fun t ht ht2 => ?_, h5⟩
    by_cases e : t = k
    · subst e; exact hv
    · exact h4 t (by omega) ht2
theorem rk_xor (hD : D ≤ 16) (hk : k < 16) (hB : rkB D tp i b) (h : rkI D tp i b (k + 1) rk v b2) (hv : tb v k = true) (hn : ¬ b2 k = 0) : rkI D tp i b k rk (v ^^^ b2 k) b2 := by
  rcases h with ⟨h1, h2 | h2⟩ | ⟨h1, h2, h3, h4, h5⟩
  · have hki : k = i := by
      rcases Nat.lt_or_ge i k with z | z
      · rw [h2.2.1, (sq_top hD i h1).2 k z (by omega)] at hv; cases hv
      · omega
    rw [h2.2.2.2, hki, hB i (by omega), if_neg (by omega)] at hn
    exact absurd rfl hn
  · rw [h2.2.1, tb_0] at hv; cases hv
  · have hkD : k < D := by
      rcases Nat.lt_or_ge k D with z | z
      · exact z
      · rw [h5 k z (by omega)] at hv; cases hv
    have hs := sq_top (tp := tp) hD k hkD
    have e : b2 k = sqC (nI D) tp k := by rw [h3, hB k hk, if_pos ⟨by omega, hkD⟩]
    refine Or.inr ⟨h1, h2, h3, fun t ht ht2 => ?_, fun t ht ht2 => ?_⟩
    · rw [tb_xor, e]
      by_cases e2 : t = k
      · subst e2; rw [hv, hs.1]; rfl
      · rw [h4 t (by omega) ht2, hs.2 t (by omega) ht2]; rfl
    · rw [tb_xor, e, h5 t ht ht2, hs.2 t (by omega) ht2]; rfl
theorem rk_put (hD : D ≤ 16) (hk : k < 16) (hB : rkB D tp i b) (h : rkI D tp i b (k + 1) rk v b2) (hv : tb v k = true) (hn : b2 k = 0) : rkI D tp i b k (rk + 1) 0 (upd b2 k v) := by
  rcases h with ⟨h1, h2 | h2⟩ | ⟨h1, h2, h3, h4, h5⟩
  · have hki : k = i := by
      rcases Nat.lt_or_ge i k with z | z
      · rw [h2.2.1, (sq_top hD i h1).2 k z (by omega)] at hv; cases hv
      · omega
    subst hki
    exact Or.inl ⟨h1, Or.inr ⟨Nat.le_refl _, rfl, by rw [h2.2.2.1], by rw [h2.2.2.2, h2.2.1]⟩⟩
  · rw [h2.2.1, tb_0] at hv; cases hv
  · have hkD : k < D := by
      rcases Nat.lt_or_ge k D with z | z
      · exact z
      · rw [h5 k z (by omega)] at hv; cases hv
    have hs := sq_top (tp := tp) hD k hkD
    rw [h3, hB k hk, if_pos ⟨by omega, hkD⟩] at hn
    rw [hn, tb_0] at hs
    cases hs.1
theorem rk_end (hD : D ≤ 16) (hB : rkB D tp i b) (h : rkI D tp i b 0 rk v b2) : rk = min (i + 1) D ∧ rkB D tp (i + 1) b2 := by
  rcases h with ⟨h1, h2 | h2⟩ | ⟨h1, h2, h3, h4, h5⟩
  · omega
  · refine ⟨by omega, fun k hk => ?_⟩
    rw [h2.2.2.2]
    by_cases e : k = i
    · subst e; rw [pk_us, if_pos ⟨by omega, h1⟩]
    · rw [pk_un e, hB k hk]
      by_cases h9 : k < i ∧ k < D
      · rw [if_pos h9, if_pos ⟨by omega, h9.2⟩]
      · rw [if_neg h9, if_neg (by omega)]
  · refine ⟨by omega, fun k hk => ?_⟩
    rw [h3, hB k hk]
    by_cases h9 : k < i ∧ k < D
    · rw [if_pos h9, if_pos ⟨by omega, h9.2⟩]
    · rw [if_neg h9, if_neg (by omega)]
theorem rk_start (hD1 : 1 ≤ D) (hD : D ≤ 16) : rkI D tp i b 16 (min i D) (sqC (nI D) tp i) b := by
  by_cases h : i < D
  · exact Or.inl ⟨h, Or.inl ⟨by omega, rfl, by omega, rfl⟩⟩
  · exact Or.inr ⟨by omega, by omega, rfl, fun t h1 h2 => sq_hi hD1 hD i t (by omega) h2, fun t h1 h2 => sq_hi hD1 hD i t h1 h2⟩
end RANK
theorem zb1 {b : Bool} (h : zb b = 1) : b = true := by cases b with
  | true => rfl
  | false => exact absurd h (by decide)
theorem zb1n {b : Bool} (h : ¬ zb b = 1) : b = false := by cases b with
  | true => exact absurd rfl h
  | false => rfl
