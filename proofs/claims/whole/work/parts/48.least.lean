/-! The least seed. Rows as pairs: cells and seed. -/
def lb (x : Int64) (k : Nat) : Bool := x.toBitVec.getLsbD k
theorem lb_xor (x y : Int64) (k : Nat) : lb (x ^^^ y) k = (lb x k ^^ lb y k) := by simp [lb]
theorem lb_ext {x y : Int64} (h : ∀ k, k < 64 → lb x k = lb y k) : x = y := by
  apply Int64.toBitVec_inj.mp
  apply BitVec.eq_of_getLsbD_eq
  intro i hi
  exact h i hi
theorem lb_0 (k : Nat) : lb 0 k = false := by simp [lb]
theorem lb_sx (x : Int32) {k : Nat} (hk : k < 64) : lb x.toInt64 k = tb x (min k 31) := by
  unfold lb tb
  rw [Int32.toBitVec_toInt64, BitVec.getLsbD_signExtend]
  by_cases h : k < 32
  · rw [if_pos h, Nat.min_eq_left (by omega)]; simp [hk]
  · rw [if_neg h, Nat.min_eq_right (by omega), BitVec.msb_eq_getLsbD_last]; simp [hk]
def sm (t : Nat) (x : Int32) : Prop := ∀ k, t ≤ k → k < 32 → tb x k = false
theorem lb_row (c s : Int32) (hs : sm 16 s) {k : Nat} (hk : k < 64) : lb (rowC c s) k = if k < 16 then tb s k else tb c (min (k - 16) 31) := by
  have h1 : lb (rowC c s) k = (lb (c.toInt64 <<< ((16 : Int32).toInt64 &&& 63)) k || lb s.toInt64 k) := by simp [lb, rowC]
  have h2 : lb (c.toInt64 <<< ((16 : Int32).toInt64 &&& 63)) k = (decide (16 ≤ k) && lb c.toInt64 (k - 16)) := by
    unfold lb
    rw [Int64.toBitVec_shiftLeft, show ((16 : Int32).toInt64 &&& 63).toBitVec.smod 64 = 16#64 by decide]
    show (c.toInt64.toBitVec <<< 16).getLsbD k = _
    rw [BitVec.getLsbD_shiftLeft]
    by_cases h : k < 16
    · simp [h, show ¬ 16 ≤ k by omega]
    · simp [h, hk, show 16 ≤ k by omega]
  rw [h1, h2, lb_sx s hk]
  by_cases h : k < 16
  · rw [if_pos h, Nat.min_eq_left (by omega)]; simp [show ¬ 16 ≤ k by omega]
  · rw [if_neg h, hs (min k 31) (by omega) (by omega), lb_sx c (by omega)]
    simp [show 16 ≤ k by omega]
theorem sm_xor {t : Nat} {x y : Int32} (h1 : sm t x) (h2 : sm t y) : sm t (x ^^^ y) := fun k a b => by rw [tb_xor, h1 k a b, h2 k a b]; rfl
theorem sm_0 (t : Nat) : sm t 0 := fun k _ _ => tb_0 k
theorem row_xor {c s c' s' : Int32} (hs : sm 16 s) (hs' : sm 16 s') : rowC c s ^^^ rowC c' s' = rowC (c ^^^ c') (s ^^^ s') := by
  apply lb_ext
  intro k hk
  rw [lb_xor, lb_row _ _ hs hk, lb_row _ _ hs' hk, lb_row _ _ (sm_xor hs hs') hk]
  split
  · rw [tb_xor]
  · rw [tb_xor]
theorem row_00 : rowC 0 0 = 0 := by decide +kernel
theorem lbit_0 (r : Int64) {i : Nat} (hi : i < 64) : lbit r i = 0 ↔ lb r i = false := by
  have hm : ((nI i).toInt64 &&& 63).toBitVec.smod 64 = BitVec.ofNat 64 i := by
    have : ∀ i, i < 64 → ((nI i).toInt64 &&& 63).toBitVec.smod 64 = BitVec.ofNat 64 i := by decide +kernel
    exact this i hi
  have h1 : (r >>> ((nI i).toInt64 &&& 63)).toBitVec = r.toBitVec.sshiftRight i := by
    rw [Int64.toBitVec_shiftRight, hm, BitVec.sshiftRight_eq']
    congr 1
    simp
    omega
  have e0 : lb (lbit r i) 0 = lb r i := by
    have : lb (lbit r i) 0 = (lb (r >>> ((nI i).toInt64 &&& 63)) 0 && lb 1 0) := by simp [lb, lbit]
    rw [this, show lb 1 0 = true by decide]
    unfold lb
    rw [h1, BitVec.getLsbD_sshiftRight]
    simp [hi]
  have e1 : ∀ k, k < 64 → lb (lbit r i) k = (decide (k = 0) && lb r i) := by
    intro k hk
    by_cases h : k = 0
    · subst h; rw [e0]; simp
    · have : lb (lbit r i) k = (lb (r >>> ((nI i).toInt64 &&& 63)) k && lb 1 k) := by simp [lb, lbit]
      have h9 : ∀ k, k < 64 → lb 1 k = decide (k = 0) := by decide +kernel
      rw [this, h9 k hk]; simp [h]
  constructor
  · intro h
    rw [← e0, h, lb_0]
  · intro h
    apply lb_ext
    intro k hk
    rw [e1 k hk, h, lb_0]; simp
theorem lbit_row {c s : Int32} (hs : sm 16 s) {k : Nat} (hk : k < 32) : lbit (rowC c s) (k + 16) = 0 ↔ tb c k = false := by
  rw [lbit_0 _ (by omega), lb_row _ _ hs (by omega), if_neg (by omega), show min (k + 16 - 16) 31 = k by omega]
theorem cel_row {c s : Int32} (hs : sm 16 s) : celC (rowC c s) = 0 ↔ c = 0 := by
  have h1 : (celC (rowC c s)).toBitVec = (rowC c s).toBitVec.sshiftRight 16 := by
    unfold celC
    rw [Int64.toBitVec_shiftRight, show ((16 : Int32).toInt64 &&& 63).toBitVec.smod 64 = 16#64 by decide, BitVec.sshiftRight_eq']
    rfl
  constructor
  · intro h
    apply tb_ext
    intro k hk
    have h2 : lb (celC (rowC c s)) k = tb c k := by
      unfold lb
      rw [h1, BitVec.getLsbD_sshiftRight]
      have := lb_row c s hs (show k + 16 < 64 by omega)
      rw [if_neg (by omega), show min (k + 16 - 16) 31 = k by omega] at this
      unfold lb at this
      rw [Nat.add_comm 16 k, this]
      simp [show ¬ 64 ≤ k by omega, show k + 16 < 64 by omega]
    rw [← h2, h, lb_0, tb_0]
  · intro h
    subst h
    apply lb_ext
    intro k hk
    rw [lb_0]
    unfold lb
    rw [h1, BitVec.getLsbD_sshiftRight]
    by_cases h9 : 16 + k < 64
    · have := lb_row 0 s hs h9
      rw [if_neg (by omega), tb_0] at this
      unfold lb at this
      rw [this]; simp [h9]
    · have := lb_row 0 s hs (show 63 < 64 by omega)
      rw [if_neg (by omega), tb_0] at this
      unfold lb at this
      rw [BitVec.msb_eq_getLsbD_last, this]; simp [h9]
theorem row_i {s : Int32} (hs : sm 16 s) : (rowC 0 s).toInt32 = s := by
  have : rowC 0 s = s.toInt64 := by
    apply lb_ext
    intro k hk
    rw [lb_row _ _ hs hk, lb_sx s hk]
    split
    · rw [Nat.min_eq_left (by omega)]
    · rw [tb_0, hs _ (by omega) (by omega)]
  rw [this]
  simp
abbrev Rw : Type := Nat → Int32 × Int32
def redP (rw : Rw) : Nat → Int32 × Int32 → Int32 × Int32
  | 0, r => r
  | k + 1, r => redP rw k (if tb r.1 k then (r.1 ^^^ (rw k).1, r.2 ^^^ (rw k).2) else r)
def Enc (f : Nat → Int64) (rw : Rw) : Prop := ∀ k, k < 32 → f (k + 16) = rowC (rw k).1 (rw k).2 ∧ sm 16 (rw k).2
theorem red_enc {f : Nat → Int64} {rw : Rw} (h : Enc f rw) : ∀ n, n ≤ 32 → ∀ r : Int32 × Int32, sm 16 r.2 → redC f n (rowC r.1 r.2) = rowC (redP rw n r).1 (redP rw n r).2 ∧ sm 16 (redP rw n r).2
  | 0, _, r, hr => ⟨rfl, hr⟩
  | n + 1, hn, r, hr => by
    have hk := h n (by omega)
    show redC f n (if lbit (rowC r.1 r.2) (n + 16) = 0 then _ else _) = _ ∧ _
    unfold redP
    by_cases hb : tb r.1 n = false
    · rw [if_pos ((lbit_row hr (by omega)).mpr hb), if_neg (by rw [hb]; decide)]
      exact red_enc h n (by omega) r hr
    · rw [if_neg (fun z => hb ((lbit_row hr (by omega)).mp z)), if_pos (by simpa using hb), hk.1, row_xor hr hk.2]
      exact red_enc h n (by omega) (r.1 ^^^ (rw n).1, r.2 ^^^ (rw n).2) (sm_xor hr hk.2)
def keepP (r : Int32 × Int32) (rw : Rw) : Nat → Rw
  | 0 => rw
  | k + 1 => if tb r.1 k then va_up rw k r else keepP r rw k
theorem keep_enc {f : Nat → Int64} {rw : Rw} (h : Enc f rw) {r : Int32 × Int32} (hr : sm 16 r.2) : ∀ n, n ≤ 32 → Enc (keepC (rowC r.1 r.2) f n) (keepP r rw n)
  | 0, _ => h
  | n + 1, hn => by
    unfold keepC keepP
    by_cases hb : tb r.1 n = false
    · rw [if_pos ((lbit_row hr (by omega)).mpr hb), if_neg (by rw [hb]; decide)]
      exact keep_enc h hr n (by omega)
    · rw [if_neg (fun z => hb ((lbit_row hr (by omega)).mp z)), if_pos (by simpa using hb)]
      intro k hk
      by_cases e : k = n
      · subst e; rw [pk_uLs, va_up_self]; exact ⟨rfl, hr⟩
      · rw [pk_uLn (by omega), va_up_ne _ _ e]; exact h k hk
/-- the top bit -/
def topB (c : Int32) (k : Nat) : Prop := tb c k = true ∧ ∀ j, k < j → j < 32 → tb c j = false
theorem keep_top {r : Int32 × Int32} {rw : Rw} {k : Nat} (hk : topB r.1 k) : ∀ n, k < n → n ≤ 32 → keepP r rw n = va_up rw k r
  | 0, h, _ => by omega
  | n + 1, h, hn => by
    unfold keepP
    by_cases e : k = n
    · subst e; rw [if_pos hk.1]
    · rw [if_neg (by rw [hk.2 n (by omega) (by omega)]; decide)]
      exact keep_top hk n (by omega) (by omega)
theorem keep_no {s : Int32} {rw : Rw} : ∀ n, keepP (0, s) rw n = rw
  | 0 => rfl
  | n + 1 => by unfold keepP; rw [if_neg (by rw [tb_0]; decide)]; exact keep_no n
theorem top_ex {c : Int32} (h : ¬ c = 0) : ∃ k, k < 32 ∧ topB c k := by
  have key : ∀ n, n ≤ 32 → (∀ j, n ≤ j → j < 32 → tb c j = false) → (∃ k, k < 32 ∧ topB c k) ∨ c = 0 := by
    intro n
    induction n with
    | zero => intro _ hz; exact Or.inr (tb_ext (fun k hk => by rw [hz k (by omega) hk, tb_0]))
    | succ n ih =>
      intro hn hz
      cases hb : tb c n with
      | true => exact Or.inl ⟨n, by omega, hb, fun j h1 h2 => hz j (by omega) h2⟩
      | false => exact ih (by omega) (fun j h1 h2 => by
          by_cases e : j = n
          · subst e; exact hb
          · exact hz j (by omega) h2)
  rcases key 32 (Nat.le_refl _) (fun j h1 h2 => by omega) with h9 | h9
  · exact h9
  · exact absurd h9 h
def toN (x : Int32) : Nat := x.toBitVec.toNat
theorem tb_toN (x : Int32) (k : Nat) : tb x k = (toN x).testBit k := rfl
theorem sm_lt {t : Nat} {x : Int32} (h : sm t x) : toN x < 2 ^ t := by
  apply Nat.lt_pow_two_of_testBit
  intro i hi
  rw [← tb_toN]
  by_cases h9 : i < 32
  · exact h i hi h9
  · exact tb_big x (by omega)
theorem toN_nI (x : Int32) : x = nI (toN x) := by
  apply Int32.toBitVec_inj.mp
  apply BitVec.eq_of_toNat_eq
  exact (pk_tn (show toN x < 2 ^ 32 from x.toBitVec.isLt)).symm
theorem tb1n {i : Nat} (h : 1 ≤ i) : Nat.testBit 1 i = false := Nat.testBit_lt_two_pow (by
  have : 2 ^ 1 ≤ 2 ^ i := Nat.pow_le_pow_right (by omega) h
  omega)
theorem toN_on {t : Nat} {y : Int32} (ht : t < 32) (h : sm t y) : toN (on1 t ^^^ y) = 2 ^ t + toN y := by
  have hy := sm_lt h
  apply Nat.eq_of_testBit_eq
  intro i
  rw [show 2 ^ t + toN y = 2 ^ t * 1 + toN y by omega, Nat.testBit_two_pow_mul_add _ hy, ← tb_toN, tb_xor]
  by_cases h9 : i < 32
  · rw [tb_on1 ht h9]
    by_cases h1 : i < t
    · rw [if_pos h1]; simp [show ¬ i = t by omega, tb_toN]
    · rw [if_neg h1, h i (by omega) h9]
      by_cases e : i = t
      · subst e; simp
      · rw [tb1n (by omega)]; simp [e]
  · rw [tb_big _ (by omega), tb_big _ (by omega), if_neg (by omega)]
    rw [tb1n (by omega)]; rfl
theorem toN_ge {t : Nat} {y : Int32} (h : tb y t = true) : 2 ^ t ≤ toN y := Nat.ge_two_pow_of_testBit (by rw [← tb_toN]; exact h)
theorem sm_nI {t u : Nat} (hu : u < 2 ^ t) (ht : t ≤ 16) : sm t (nI u) := by
  intro k h1 h2
  have h3 : u < 2 ^ 32 := Nat.lt_of_lt_of_le hu (Nat.pow_le_pow_right (by omega) (by omega))
  rw [tb_toN, show toN (nI u) = u from pk_tn h3]
  exact Nat.testBit_lt_two_pow (Nat.lt_of_lt_of_le hu (Nat.pow_le_pow_right (by omega) h1))

/-! What the rows know after t stages. -/
section LEAST
variable {mm : Int32 → Int32}
def inU (U : Nat → Bool) (x : Int32) : Prop := ∀ k, k < 32 → tb x k = true → U k = true
theorem inU_xor {U : Nat → Bool} {x y : Int32} (h1 : inU U x) (h2 : inU U y) : inU U (x ^^^ y) := by
  intro k hk h
  rw [tb_xor] at h
  cases hx : tb x k with
  | true => exact h1 k hk hx
  | false => rw [hx] at h; exact h2 k hk (by simpa using h)
def LInv (mm : Int32 → Int32) (t : Nat) (rw : Rw) (U : Nat → Bool) : Prop :=
  (∀ k, U k = true → k < t) ∧ (∀ k, k < 32 → rw k = (0, 0) ∨ (topB (rw k).1 k ∧ (rw k).1 = mm (rw k).2 ∧ inU U (rw k).2)) ∧ (∀ x, inU U x → mm x = 0 → x = 0) ∧ (∀ y, sm t y → ∃ x, inU U x ∧ mm x = mm y ∧ toN x ≤ toN y) ∧ (∀ y, sm t y → ∀ k, k < 32 → topB (mm y) k → ¬ rw k = (0, 0))
theorem inU_sm {U : Nat → Bool} {t : Nat} (h : ∀ k, U k = true → k < t) {x : Int32} (hx : inU U x) : sm t x := by
  intro k h1 h2
  cases hb : tb x k with
  | false => rfl
  | true => have := h k (hx k h2 hb); omega
theorem xor_self0 (x : Int32) : x ^^^ x = 0 := tb_ext (fun k _ => by rw [tb_xor, tb_0]; cases tb x k <;> rfl)
theorem xor_0' (x : Int32) : 0 ^^^ x = x := tb_ext (fun k _ => by rw [tb_xor, tb_0]; cases tb x k <;> rfl)
theorem xor_as (x y z : Int32) : (x ^^^ y) ^^^ z = x ^^^ (y ^^^ z) := tb_ext (fun k _ => by simp only [tb_xor]; cases tb x k <;> cases tb y k <;> cases tb z k <;> rfl)
theorem xor_eq0 {x y : Int32} (h : x ^^^ y = 0) : x = y := tb_ext (fun k _ => by
  have := congrArg (fun z => tb z k) h
  simp only [tb_xor, tb_0] at this
  cases h1 : tb x k <;> cases h2 : tb y k <;> simp_all)
theorem red_ok {t : Nat} {rw : Rw} {U : Nat → Bool} (hm : ∀ x y, mm (x ^^^ y) = mm x ^^^ mm y) (h : LInv mm t rw U) : ∀ n, n ≤ 32 → ∀ r : Int32 × Int32, ∃ z, inU U z ∧ (redP rw n r).1 = r.1 ^^^ mm z ∧ (redP rw n r).2 = r.2 ^^^ z ∧ (∀ k, k < n → ¬ rw k = (0, 0) → tb (redP rw n r).1 k = false) ∧ (∀ j, n ≤ j → j < 32 → tb (redP rw n r).1 j = tb r.1 j)
  | 0, _, r => by
    have m0 : mm 0 = 0 := by have := hm 0 0; rw [xor_self0, xor_self0] at this; exact this
    exact ⟨0, (fun k _ h9 => by rw [tb_0] at h9; cases h9), by show r.1 = _; rw [m0, xor00], by show r.2 = _; rw [xor00], fun k h9 => by omega, fun _ _ _ => rfl⟩
  | n + 1, hn, r => by
    unfold redP
    cases hb : tb r.1 n with
    | false =>
      rw [if_neg (by decide)]
      obtain ⟨z, h1, h2, h3, h4, h5⟩ := red_ok hm h n (by omega) r
      refine ⟨z, h1, h2, h3, fun k hk hne => ?_, fun j h6 h7 => h5 j (by omega) h7⟩
      by_cases e : k = n
      · subst e; rw [h5 k (Nat.le_refl _) (by omega)]; exact hb
      · exact h4 k (by omega) hne
    | true =>
      rw [if_pos rfl]
      obtain ⟨z, h1, h2, h3, h4, h5⟩ := red_ok hm h n (by omega) (r.1 ^^^ (rw n).1, r.2 ^^^ (rw n).2)
      rcases h.2.1 n (by omega) with h9 | ⟨h9, h10, h11⟩
      · rw [h9] at h2 h3 h4 h5 ⊢
        simp only [xor00] at h2 h3 h4 h5 ⊢
        refine ⟨z, h1, h2, h3, fun k hk hne => ?_, fun j h6 h7 => h5 j (by omega) h7⟩
        by_cases e : k = n
        · subst e; exact absurd h9 hne
        · exact h4 k (by omega) hne
      · refine ⟨(rw n).2 ^^^ z, inU_xor h11 h1, ?_, ?_, fun k hk hne => ?_, fun j h6 h7 => ?_⟩
        · rw [h2, hm, ← h10, xor_as]
        · rw [h3, xor_as]
        · by_cases e : k = n
          · subst e; rw [h5 k (Nat.le_refl _) (by omega)]; show tb (r.1 ^^^ (rw k).1) k = false; rw [tb_xor, hb, h9.1]; rfl
          · exact h4 k (by omega) hne
        · rw [h5 j (by omega) h7]; show tb (r.1 ^^^ (rw n).1) j = _; rw [tb_xor, h9.2 j (by omega) h7]; simp
theorem red_full {t : Nat} {rw : Rw} {U : Nat → Bool} (hm : ∀ x y, mm (x ^^^ y) = mm x ^^^ mm y) (h : LInv mm t rw U) {y : Int32} (hy : sm t y) (s : Int32) : (redP rw 32 (mm y, s)).1 = 0 := by
  obtain ⟨z, h1, h2, h3, h4, h5⟩ := red_ok hm h 32 (Nat.le_refl _) (mm y, s)
  cases Classical.em ((redP rw 32 (mm y, s)).1 = 0) with
  | inl h9 => exact h9
  | inr h9 =>
    obtain ⟨k, hk, ht⟩ := top_ex h9
    have e : (redP rw 32 (mm y, s)).1 = mm (y ^^^ z) := by rw [h2, hm]
    have := h.2.2.2.2 (y ^^^ z) (sm_xor hy (inU_sm h.1 h1)) k hk (by rw [← e]; exact ht)
    have h8 := h4 k hk this
    rw [ht.1] at h8; cases h8
theorem sm_split {t : Nat} {y : Int32} (ht : t < 32) (hy : sm (t + 1) y) : (tb y t = false ∧ sm t y) ∨ (tb y t = true ∧ sm t (on1 t ^^^ y) ∧ y = on1 t ^^^ (on1 t ^^^ y)) := by
  cases hb : tb y t with
  | false =>
    refine Or.inl ⟨rfl, fun k h1 h2 => ?_⟩
    by_cases e : k = t
    · subst e; exact hb
    · exact hy k (by omega) h2
  | true =>
    refine Or.inr ⟨rfl, fun k h1 h2 => ?_, by rw [← xor_as, xor_self0, xor_0']⟩
    rw [tb_xor, tb_on1 ht h2]
    by_cases e : k = t
    · subst e; rw [hb]; simp
    · rw [hy k (by omega) h2]; simp [e]
theorem least_step {t : Nat} {rw : Rw} {U : Nat → Bool} (hm : ∀ x y, mm (x ^^^ y) = mm x ^^^ mm y) (ht : t < 16) (h : LInv mm t rw U) : ∃ U', LInv mm (t + 1) (keepP (redP rw 32 (mm (on1 t), on1 t)) rw 32) U' := by
  obtain ⟨z, h1, h2, h3, h4, -⟩ := red_ok hm h 32 (Nat.le_refl _) (mm (on1 t), on1 t)
  have hz := inU_sm h.1 h1
  generalize hr : redP rw 32 (mm (on1 t), on1 t) = r at h2 h3 h4
  obtain ⟨c, w⟩ := r
  have h2 : c = mm (on1 t) ^^^ mm z := h2
  have h3 : w = on1 t ^^^ z := h3
  have h4 : ∀ k, k < 32 → ¬ rw k = (0, 0) → tb c k = false := h4
  have hcw : c = mm w := by rw [h3, hm, h2]
  have me : mm (on1 t) = c ^^^ mm z := by rw [h2, xor_as, xor_self0, xor00]
  -- what y above makes, the part below t makes, but for c
  have my : ∀ y, y = on1 t ^^^ (on1 t ^^^ y) → mm y = c ^^^ mm (z ^^^ (on1 t ^^^ y)) := fun y hy => by
    have e := congrArg mm hy
    rw [e, hm, me, hm z, xor_as]
  cases Classical.em (c = 0) with
  | inl hc =>
    subst hc
    rw [keep_no]
    refine ⟨U, fun k hk => Nat.lt_succ_of_lt (h.1 k hk), h.2.1, h.2.2.1, fun y hy => ?_, fun y hy k hk htop => ?_⟩
    · rcases sm_split (by omega) hy with ⟨_, h9⟩ | ⟨h8, h9, h10⟩
      · exact h.2.2.2.1 y h9
      · obtain ⟨x, x1, x2, x3⟩ := h.2.2.2.1 (z ^^^ (on1 t ^^^ y)) (sm_xor hz h9)
        refine ⟨x, x1, ?_, ?_⟩
        · rw [x2, my y h10, xor_0']
        · have := sm_lt (sm_xor hz h9)
          have := toN_ge h8
          omega
    · rcases sm_split (by omega) hy with ⟨_, h9⟩ | ⟨h8, h9, h10⟩
      · exact h.2.2.2.2 y h9 k hk htop
      · rw [my y h10, xor_0'] at htop
        exact h.2.2.2.2 _ (sm_xor hz h9) k hk htop
  | inr hc =>
    obtain ⟨k0, hk0, htop⟩ := top_ex hc
    have hrw0 : rw k0 = (0, 0) := by
      cases Classical.em (rw k0 = (0, 0)) with
      | inl h9 => exact h9
      | inr h9 => have := h4 k0 hk0 h9; rw [htop.1] at this; cases this
    rw [keep_top (k := k0) htop 32 hk0 (Nat.le_refl _)]
    have hU : ∀ x, inU U x → inU (fun k => U k || decide (k = t)) x := fun x hx k hk hb => by simp [hx k hk hb]
    have ho : inU (fun k => U k || decide (k = t)) (on1 t) := fun k hk hb => by
      rw [tb_on1 (by omega) hk] at hb; simp at hb ⊢; exact Or.inr hb
    refine ⟨fun k => U k || decide (k = t), fun k hk => ?_, fun k hk => ?_, fun x hx hx0 => ?_, fun y hy => ?_, fun y hy k hk hty => ?_⟩
    · rcases (by simpa using hk : U k = true ∨ k = t) with h9 | h9
      · exact Nat.lt_succ_of_lt (h.1 k h9)
      · omega
    · by_cases e : k = k0
      · subst e
        rw [va_up_self]
        exact Or.inr ⟨htop, hcw, by show inU _ w; rw [h3]; exact inU_xor ho (hU z h1)⟩
      · rw [va_up_ne _ _ e]
        rcases h.2.1 k hk with h9 | ⟨h9, h10, h11⟩
        · exact Or.inl h9
        · exact Or.inr ⟨h9, h10, hU _ h11⟩
    · have hxs : sm (t + 1) x := inU_sm (fun k hk => by
        rcases (by simpa using hk : U k = true ∨ k = t) with h9 | h9
        · exact Nat.lt_succ_of_lt (h.1 k h9)
        · omega) hx
      have hlow : ∀ x', (∀ k, k < 32 → tb x' k = true → tb x k = true ∧ k ≠ t) → inU U x' := fun x' hx' k hk hb => by
        have h9 := hx' k hk hb
        rcases (by simpa using hx k hk h9.1 : U k = true ∨ k = t) with h8 | h8
        · exact h8
        · exact absurd h8 h9.2
      rcases sm_split (by omega) hxs with ⟨h8, h9⟩ | ⟨h8, h9, h10⟩
      · exact h.2.2.1 x (hlow x (fun k hk hb => ⟨hb, fun e => by rw [e, h8] at hb; cases hb⟩)) hx0
      · have hz0 : mm (z ^^^ (on1 t ^^^ x)) = c := by
          have := my x h10
          rw [hx0] at this
          exact (xor_eq0 this.symm).symm
        exact absurd hrw0 (h.2.2.2.2 _ (sm_xor hz h9) k0 hk0 (by rw [hz0]; exact htop))
    · rcases sm_split (by omega) hy with ⟨_, h9⟩ | ⟨h8, h9, h10⟩
      · obtain ⟨x, x1, x2, x3⟩ := h.2.2.2.1 y h9
        exact ⟨x, hU x x1, x2, x3⟩
      · obtain ⟨x, x1, x2, x3⟩ := h.2.2.2.1 (on1 t ^^^ y) h9
        refine ⟨on1 t ^^^ x, inU_xor ho (hU x x1), ?_, ?_⟩
        · have e := congrArg mm h10
          rw [e, hm, hm (on1 t) (on1 t ^^^ y), x2]
        · have e := congrArg toN h10
          rw [e, toN_on (by omega) (inU_sm h.1 x1), toN_on (by omega) h9]
          omega
    · by_cases e : k = k0
      · subst e
        rw [va_up_self]
        intro z9
        have : c = 0 := congrArg Prod.fst z9
        exact hc this
      · rw [va_up_ne _ _ e]
        rcases sm_split (by omega) hy with ⟨_, h9⟩ | ⟨h8, h9, h10⟩
        · exact h.2.2.2.2 y h9 k hk hty
        · have hg := my y h10
          rw [hg] at hty
          have hsm := sm_xor hz h9
          have hx : ∀ j, j < 32 → tb c j = false → tb (c ^^^ mm (z ^^^ (on1 t ^^^ y))) j = tb (mm (z ^^^ (on1 t ^^^ y))) j := fun j _ hj => by rw [tb_xor, hj]; simp
          rcases Nat.lt_or_gt_of_ne e with h11 | h11
          · have g1 : topB (mm (z ^^^ (on1 t ^^^ y))) k0 := by
              refine ⟨?_, fun j j1 j2 => ?_⟩
              · have := hty.2 k0 h11 hk0
                rw [tb_xor, htop.1] at this
                simpa using this
              · rw [← hx j j2 (htop.2 j j1 j2)]; exact hty.2 j (by omega) j2
            exact absurd hrw0 (h.2.2.2.2 _ hsm k0 hk0 g1)
          · have g1 : topB (mm (z ^^^ (on1 t ^^^ y))) k := by
              refine ⟨by rw [← hx k hk (htop.2 k h11 hk)]; exact hty.1, fun j j1 j2 => ?_⟩
              rw [← hx j j2 (htop.2 j (by omega) j2)]; exact hty.2 j j1 j2
            exact h.2.2.2.2 _ hsm k hk g1
theorem least_0 : LInv mm 0 (fun _ => (0, 0)) (fun _ => false) ∨ ¬ mm 0 = 0 := by
  cases Classical.em (mm 0 = 0) with
  | inr h => exact Or.inr h
  | inl h0 =>
    have hz : ∀ y, sm 0 y → y = 0 := fun y hy => tb_ext (fun k hk => by rw [hy k (by omega) hk, tb_0])
    refine Or.inl ⟨fun k hk => (Bool.noConfusion hk), fun k _ => Or.inl rfl, fun x hx _ => tb_ext (fun k hk => ?_), fun y hy => ⟨0, fun k _ hb => ?_, by rw [hz y hy], by rw [hz y hy]; exact Nat.le_refl _⟩, fun y hy k hk ht => ?_⟩
    · rw [tb_0]
      cases hb : tb x k with
      | false => rfl
      | true => exact (Bool.noConfusion (hx k hk hb))
    · rw [tb_0] at hb; cases hb
    · rw [hz y hy, h0] at ht
      have h9 := ht.1
      rw [tb_0] at h9; cases h9
end LEAST
section LEASTC
variable {D C E : Nat} {tp : Int32}
def mkm (D : Nat) (tp : Int32) (C E : Nat) (ca x : Int32) : Int32 := makeC (nI D) tp C E x &&& ca
theorem mkm_xor (hD1 : 1 ≤ D) (hD : D ≤ 16) (hC : C ≤ 4) (hE : E ≤ 8) (ca : Int32) : ∀ x y, mkm D tp C E ca (x ^^^ y) = mkm D tp C E ca x ^^^ mkm D tp C E ca y := fun x y => by
  unfold mkm
  rw [make_xor hD1 hD hC hE]
  exact tb_ext (fun k _ => by simp only [tb_and, tb_xor]; generalize tb (makeC (nI D) tp C E x) k = a; generalize tb (makeC (nI D) tp C E y) k = b; cases a <;> cases b <;> cases tb ca k <;> rfl)
theorem sm_on {t : Nat} (ht : t < 16) : sm 16 (on1 t) := fun k h1 h2 => by rw [tb_on1 (by omega) h2]; simp; omega
theorem ls_inv (hD1 : 1 ≤ D) (hD : D ≤ 16) (hC : C ≤ 4) (hE : E ≤ 8) (ca : Int32) : ∀ t, t ≤ 16 → ∃ rw U, Enc (lsR (nI D) tp C E ca t) rw ∧ LInv (mkm D tp C E ca) t rw U
  | 0, _ => by
    have hm := mkm_xor (tp := tp) hD1 hD hC hE ca
    have m0 : mkm D tp C E ca 0 = 0 := by have := hm 0 0; rw [xor_self0, xor_self0] at this; exact this
    refine ⟨fun _ => (0, 0), fun _ => false, fun k hk => ⟨row_00.symm, sm_0 _⟩, ?_⟩
    rcases least_0 (mm := mkm D tp C E ca) with h | h
    · exact h
    · exact absurd m0 h
  | t + 1, ht => by
    have hm := mkm_xor (tp := tp) hD1 hD hC hE ca
    obtain ⟨rw, U, h1, h2⟩ := ls_inv hD1 hD hC hE ca t (by omega)
    obtain ⟨U', h3⟩ := least_step hm (by omega) h2
    refine ⟨_, U', ?_, h3⟩
    have e := red_enc h1 32 (Nat.le_refl _) (mkm D tp C E ca (on1 t), on1 t) (sm_on (by omega))
    have e2 : lsR (nI D) tp C E ca (t + 1) = keepC (redC (lsR (nI D) tp C E ca t) 32 (rowC (mkm D tp C E ca (on1 t)) (on1 t))) (lsR (nI D) tp C E ca t) 32 := rfl
    rw [e2]
    have e3 : redC (lsR (nI D) tp C E ca t) 32 (rowC (mkm D tp C E ca (on1 t)) (on1 t)) = rowC (redP rw 32 (mkm D tp C E ca (on1 t), on1 t)).1 (redP rw 32 (mkm D tp C E ca (on1 t), on1 t)).2 := e.1
    rw [e3]
    exact keep_enc h1 e.2 32 (Nat.le_refl _)
theorem ls_cases (hD1 : 1 ≤ D) (hD : D ≤ 16) (hC : C ≤ 4) (hE : E ≤ 8) (P : Pat) : (lsC (nI D) tp C E D (pca P) (pva P) = -1 ∧ ∀ u, u < 2 ^ D → ¬ mkOk D tp C E P (nI u)) ∨ (∃ n, n < 2 ^ D ∧ lsC (nI D) tp C E D (pca P) (pva P) = nI n ∧ mkOk D tp C E P (nI n) ∧ ∀ u, u < 2 ^ D → mkOk D tp C E P (nI u) → n ≤ u) := by
  have hm := mkm_xor (tp := tp) hD1 hD hC hE (pca P)
  obtain ⟨rw, U, h1, h2⟩ := ls_inv (tp := tp) hD1 hD hC hE (pca P) D hD
  have e := red_enc h1 32 (Nat.le_refl _) (pva P, 0) (sm_0 _)
  obtain ⟨z, z1, z2, z3, -, -⟩ := red_ok hm h2 32 (Nat.le_refl _) (pva P, 0)
  have e3 : redC (lsR (nI D) tp C E (pca P) D) 32 (rowC (pva P) 0) = rowC (redP rw 32 (pva P, 0)).1 (redP rw 32 (pva P, 0)).2 := e.1
  have z3 : (redP rw 32 (pva P, 0)).2 = z := by rw [z3]; exact xor_0' z
  have z2 : (redP rw 32 (pva P, 0)).1 = pva P ^^^ mkm D tp C E (pca P) z := z2
  have hzs := inU_sm h2.1 z1
  unfold lsC
  rw [e3]
  cases Classical.em ((redP rw 32 (pva P, 0)).1 = 0) with
  | inl h0 =>
    rw [if_pos ((cel_row e.2).mpr h0), h0, row_i e.2, z3]
    have hv : mkm D tp C E (pca P) z = pva P := (xor_eq0 (by rw [← z2]; exact h0)).symm
    refine Or.inr ⟨toN z, sm_lt hzs, toN_nI z, by rw [← toN_nI]; exact hv, fun u hu hk => ?_⟩
    obtain ⟨x, x1, x2, x3⟩ := h2.2.2.2.1 (nI u) (sm_nI hu hD)
    have hk' : mkm D tp C E (pca P) (nI u) = pva P := hk
    have hxz : x = z := by
      apply xor_eq0
      apply h2.2.2.1 _ (inU_xor x1 z1)
      rw [hm, x2, hk', hv, xor_self0]
    have hu32 : u < 2 ^ 32 := Nat.lt_of_lt_of_le hu (Nat.pow_le_pow_right (by omega) (by omega))
    rw [hxz, show toN (nI u) = u from pk_tn hu32] at x3
    exact x3
  | inr h0 =>
    rw [if_neg (fun q => h0 ((cel_row e.2).mp q))]
    refine Or.inl ⟨rfl, fun u hu hk => h0 ?_⟩
    have hk' : mkm D tp C E (pca P) (nI u) = pva P := hk
    have := red_full hm h2 (sm_nI hu hD) 0
    rw [hk'] at this
    exact this
theorem ls_none (hD1 : 1 ≤ D) (hD : D ≤ 16) (hC : C ≤ 4) (hE : E ≤ 8) {P : Pat} (h : ∀ u, u < 2 ^ D → ¬ mkOk D tp C E P (nI u)) : lsC (nI D) tp C E D (pca P) (pva P) = -1 := by
  rcases ls_cases (tp := tp) hD1 hD hC hE P with h1 | ⟨n, h1, -, h3, -⟩
  · exact h1.1
  · exact absurd h3 (h n h1)
theorem ls_some (hD1 : 1 ≤ D) (hD : D ≤ 16) (hC : C ≤ 4) (hE : E ≤ 8) {P : Pat} {u : Nat} (hu : u < 2 ^ D) (hk : mkOk D tp C E P (nI u)) (h : ∀ w, w < u → ¬ mkOk D tp C E P (nI w)) : lsC (nI D) tp C E D (pca P) (pva P) = nI u := by
  rcases ls_cases (tp := tp) hD1 hD hC hE P with h1 | ⟨n, h1, h2, h3, h4⟩
  · exact absurd hk (h1.2 u hu)
  · rw [h2]
    have := h4 u hu hk
    rcases Nat.lt_or_ge n u with h5 | h5
    · exact absurd h3 (h n h5)
    · rw [show n = u by omega]
end LEASTC
