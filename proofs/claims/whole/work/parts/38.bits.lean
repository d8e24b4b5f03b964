/-! Bits of ints. -/
def tb (x : Int32) (k : Nat) : Bool := x.toBitVec.getLsbD k
abbrev on1 (k : Nat) : Int32 := (1 : Int32) <<< (nI k &&& 31)
theorem tb_and (x y : Int32) (k : Nat) : tb (x &&& y) k = (tb x k && tb y k) := by simp [tb]
theorem tb_or (x y : Int32) (k : Nat) : tb (x ||| y) k = (tb x k || tb y k) := by simp [tb]
theorem tb_xor (x y : Int32) (k : Nat) : tb (x ^^^ y) k = (tb x k ^^ tb y k) := by simp [tb]
theorem tb_m1 {k : Nat} (h : k < 32) : tb (-1) k = true := by
  have : ∀ k, k < 32 → tb (-1) k = true := by decide +kernel
  exact this k h
theorem tb_not (x : Int32) {k : Nat} (h : k < 32) : tb (x ^^^ (-1)) k = !tb x k := by rw [tb_xor, tb_m1 h]; simp
theorem tb_0 (k : Nat) : tb 0 k = false := by simp [tb]
theorem tb_big (x : Int32) {k : Nat} (h : 32 ≤ k) : tb x k = false := by unfold tb; exact BitVec.getLsbD_of_ge _ _ h
theorem tb_on1 {k j : Nat} (hk : k < 32) (hj : j < 32) : tb (on1 k) j = decide (j = k) := by
  have : ∀ k, k < 32 → ∀ j, j < 32 → tb (on1 k) j = decide (j = k) := by decide +kernel
  exact this k hk j hj
theorem tb_ext {x y : Int32} (h : ∀ k, k < 32 → tb x k = tb y k) : x = y := by
  apply Int32.toBitVec_inj.mp
  apply BitVec.eq_of_getLsbD_eq
  intro i hi
  exact h i hi
theorem and_on1 (x : Int32) {k : Nat} (hk : k < 32) : x &&& on1 k = 0 ↔ tb x k = false := by
  constructor
  · intro h
    have h1 := tb_and x (on1 k) k
    rw [h, tb_0, tb_on1 hk hk] at h1
    simpa using h1.symm
  · intro h
    apply tb_ext
    intro j hj
    rw [tb_and, tb_on1 hk hj, tb_0]
    by_cases e : j = k
    · subst e; simp [h]
    · simp [e]
theorem and_0 {x y : Int32} : x &&& y = 0 ↔ ∀ k, k < 32 → tb x k = true → tb y k = false := by
  constructor
  · intro h k hk hx
    have := tb_and x y k
    rw [h, tb_0, hx] at this
    simpa using this.symm
  · intro h
    apply tb_ext
    intro k hk
    rw [tb_and, tb_0]
    cases hx : tb x k with
    | false => rfl
    | true => simp [h k hk hx]
theorem plC_on1 {c e : Nat} (hc : c < 4) (he : e < 8) : plC (nI c) (nI e) = on1 (8 * c + e) := by
  have : ∀ c, c < 4 → ∀ e, e < 8 → plC (nI c) (nI e) = on1 (8 * c + e) := by decide +kernel
  exact this c hc e he
theorem shr1 (x : Int32) {k : Nat} (hk : k < 32) : (x >>> (nI k &&& 31)) &&& 1 = if tb x k then 1 else 0 := by
  have hm : ((nI k &&& 31).toBitVec.smod 32).toNat = k := by
    have : ∀ k, k < 32 → ((nI k &&& 31).toBitVec.smod 32).toNat = k := by decide +kernel
    exact this k hk
  have h1 : (x >>> (nI k &&& 31)).toBitVec = x.toBitVec.sshiftRight k := by
    rw [Int32.toBitVec_shiftRight, BitVec.sshiftRight_eq', hm]
  apply tb_ext
  intro j hj
  rw [tb_and]
  have e1 : tb 1 j = decide (j = 0) := by
    have : ∀ j, j < 32 → tb 1 j = decide (j = 0) := by decide +kernel
    exact this j hj
  have e2 : tb (x >>> (nI k &&& 31)) 0 = tb x k := by
    unfold tb
    rw [h1, BitVec.getLsbD_sshiftRight]
    simp [hk]
  by_cases hj0 : j = 0
  · subst hj0
    rw [e1, e2]
    cases tb x k <;> simp [e1, tb_0]
  · rw [e1]
    cases tb x k <;> simp [e1, tb_0, hj0]
/-! How many bits. -/
def ppN (n : Nat) (k : Nat) : Nat := itr (fun i a => if n.testBit i then a + 1 else a) 0 k
theorem ppN_add (m d : Nat) (hd : d < 256) (k : Nat) : ppN (256 * m + d) (8 + k) = ppN d 8 + ppN m k := by
  induction k with
  | zero =>
    show ppN (256 * m + d) 8 = ppN d 8
    refine itr_congr 8 (fun i hi x => ?_)
    have : (256 * m + d).testBit i = d.testBit i := by
      rw [show 256 * m + d = 2 ^ 8 * m + d by omega, Nat.testBit_two_pow_mul_add _ (by omega)]
      simp [hi]
    rw [this]
  | succ k ih =>
    show itr _ _ (8 + k + 1) = _
    rw [itr_s]
    have : (256 * m + d).testBit (8 + k) = m.testBit k := by
      rw [show 256 * m + d = 2 ^ 8 * m + d by omega, Nat.testBit_two_pow_mul_add _ (by omega), if_neg (by omega), show 8 + k - 8 = k by omega]
    rw [this]
    show (if m.testBit k = true then ppN (256 * m + d) (8 + k) + 1 else ppN (256 * m + d) (8 + k)) = _
    rw [ih]
    show _ = ppN d 8 + (if m.testBit k = true then ppN m k + 1 else ppN m k)
    split <;> omega
theorem land256 (m d M e : Nat) (hd : d < 256) (he : e < 256) : (256 * m + d) &&& (256 * M + e) = 256 * (m &&& M) + (d &&& e) := by
  have hde : d &&& e < 2 ^ 8 := Nat.and_lt_two_pow _ (by omega)
  apply Nat.eq_of_testBit_eq
  intro i
  rw [Nat.testBit_and, show 256 * m + d = 2 ^ 8 * m + d by omega, show 256 * M + e = 2 ^ 8 * M + e by omega, show 256 * (m &&& M) + (d &&& e) = 2 ^ 8 * (m &&& M) + (d &&& e) by omega, Nat.testBit_two_pow_mul_add _ (by omega), Nat.testBit_two_pow_mul_add _ (by omega), Nat.testBit_two_pow_mul_add _ hde]
  split
  · rw [Nat.testBit_and]
  · rw [Nat.testBit_and]
def bA (d : Nat) : Nat := d - ((d / 2) &&& 0x55)
def bB (d : Nat) : Nat := (d &&& 0x33) + ((d / 4) &&& 0x33)
def bD (d : Nat) : Nat := (d + d / 16) &&& 0x0f
theorem bA1 (m M d : Nat) (hd : d < 256) (hM : (m / 2) &&& M ≤ m) : (256 * m + d) - (((256 * m + d) / 2) &&& (256 * M + 0x55)) = 256 * (m - ((m / 2) &&& M)) + bA d := by
  have h1 : (256 * m + d) / 2 = 256 * (m / 2) + (128 * (m % 2) + d / 2) := by omega
  have h2 : ∀ d, d < 256 → ∀ b, b < 2 → (128 * b + d / 2) &&& 0x55 = (d / 2) &&& 0x55 := by decide +kernel
  have h3 : ∀ d, d < 256 → (d / 2) &&& 0x55 ≤ d := by decide +kernel
  rw [h1, land256 _ _ _ _ (by omega) (by omega), h2 d hd _ (by omega)]
  have := h3 d hd
  unfold bA
  omega
theorem bB1 (m M d : Nat) (hd : d < 256) : ((256 * m + d) &&& (256 * M + 0x33)) + (((256 * m + d) / 4) &&& (256 * M + 0x33)) = 256 * ((m &&& M) + ((m / 4) &&& M)) + bB d := by
  have h1 : (256 * m + d) / 4 = 256 * (m / 4) + (64 * (m % 4) + d / 4) := by omega
  have h2 : ∀ d, d < 256 → ∀ b, b < 4 → (64 * b + d / 4) &&& 0x33 = (d / 4) &&& 0x33 := by decide +kernel
  rw [h1, land256 _ _ _ _ hd (by omega), land256 _ _ _ _ (by omega) (by omega), h2 d hd _ (by omega)]
  unfold bB
  omega
theorem bD1 (m M d : Nat) (hd : d ≤ 0x44) (hm : m % 16 ≤ 4) : ((256 * m + d) + (256 * m + d) / 16) &&& (256 * M + 0x0f) = 256 * ((m + m / 16) &&& M) + bD d := by
  have h1 : (256 * m + d) + (256 * m + d) / 16 = 256 * (m + m / 16) + (16 * (m % 16) + (d + d / 16)) := by omega
  have h2 : ∀ d, d ≤ 0x44 → ∀ b, b ≤ 4 → (16 * b + (d + d / 16)) &&& 0x0f = (d + d / 16) &&& 0x0f := by decide +kernel
  rw [h1, land256 _ _ _ _ (by omega) (by omega), h2 d hd _ hm]
  rfl
theorem byt : ∀ d, d < 256 → bA d < 256 ∧ bB (bA d) ≤ 0x44 ∧ bB (bA d) % 16 ≤ 4 ∧ bD (bB (bA d)) = ppN d 8 ∧ ppN d 8 ≤ 8 := by decide +kernel
def nA (n : Nat) : Nat := n - ((n / 2) &&& 0x55555555)
def nB (n : Nat) : Nat := (n &&& 0x33333333) + ((n / 4) &&& 0x33333333)
def nD (n : Nat) : Nat := (n + n / 16) &&& 0x0f0f0f0f
theorem nA4 (a b c d : Nat) (ha : a < 256) (hb : b < 256) (hc : c < 256) (hd : d < 256) : nA (256 * (256 * (256 * a + b) + c) + d) = 256 * (256 * (256 * bA a + bA b) + bA c) + bA d := by
  have l : ∀ n M : Nat, (n / 2) &&& M ≤ n := fun n M => Nat.le_trans Nat.and_le_left (Nat.div_le_self _ _)
  unfold nA
  rw [show 0x55555555 = 256 * (256 * (256 * 0x55 + 0x55) + 0x55) + 0x55 by omega, bA1 _ _ _ hd (l _ _), bA1 _ _ _ hc (l _ _), bA1 _ _ _ hb (l _ _)]
  rfl
theorem nB4 (a b c d : Nat) (hb : b < 256) (hc : c < 256) (hd : d < 256) : nB (256 * (256 * (256 * a + b) + c) + d) = 256 * (256 * (256 * bB a + bB b) + bB c) + bB d := by
  unfold nB
  rw [show 0x33333333 = 256 * (256 * (256 * 0x33 + 0x33) + 0x33) + 0x33 by omega, bB1 _ _ _ hd, bB1 _ _ _ hc, bB1 _ _ _ hb]
  rfl
theorem nD4 (a b c d : Nat) (ha : a % 16 ≤ 4) (hb : b ≤ 0x44 ∧ b % 16 ≤ 4) (hc : c ≤ 0x44 ∧ c % 16 ≤ 4) (hd : d ≤ 0x44) : nD (256 * (256 * (256 * a + b) + c) + d) = 256 * (256 * (256 * bD a + bD b) + bD c) + bD d := by
  unfold nD
  rw [show 0x0f0f0f0f = 256 * (256 * (256 * 0x0f + 0x0f) + 0x0f) + 0x0f by omega, bD1 _ _ _ hd (by omega), bD1 _ _ _ hc.1 (by omega), bD1 _ _ _ hb.1 (by omega)]
  rfl
def ppI (x : Int32) : Nat := itr (fun k a => if tb x k then a + 1 else a) 0 32
theorem ppI_N (x : Int32) : ppI x = ppN x.toBitVec.toNat 32 := by
  unfold ppI ppN
  refine itr_congr 32 (fun i hi a => ?_)
  rfl
theorem nI_land (a b : Nat) : nI a &&& nI b = nI (a &&& b) := by
  apply Int32.toBitVec_inj.mp
  apply BitVec.eq_of_toNat_eq
  show (BitVec.ofNat 32 a &&& BitVec.ofNat 32 b).toNat = (BitVec.ofNat 32 (a &&& b)).toNat
  simp [BitVec.toNat_and, BitVec.toNat_ofNat, Nat.and_mod_two_pow]
theorem bcnt_pp (x : Int32) : bcnt x = nI (ppI x) := by
  rw [ppI_N]
  obtain ⟨n, hn, rfl⟩ : ∃ n : Nat, n < 2 ^ 32 ∧ x = nI n := ⟨x.toBitVec.toNat, x.toBitVec.isLt, by
    apply Int32.toBitVec_inj.mp
    apply BitVec.eq_of_toNat_eq
    rw [pk_tn x.toBitVec.isLt]⟩
  rw [pk_tn hn]
  obtain ⟨a, b, c, d, ha, hb, hc, hd, rfl⟩ : ∃ a b c d : Nat, a < 256 ∧ b < 256 ∧ c < 256 ∧ d < 256 ∧ n = 256 * (256 * (256 * a + b) + c) + d := ⟨n / 256 / 256 / 256, n / 256 / 256 % 256, n / 256 % 256, n % 256, by omega, by omega, by omega, by omega, by omega⟩
  generalize hn2 : 256 * (256 * (256 * a + b) + c) + d = n at hn
  have hA := nA4 a b c d ha hb hc hd
  obtain ⟨a1, a2, a3, a4, a5⟩ := byt a ha
  obtain ⟨b1, b2, b3, b4, b5⟩ := byt b hb
  obtain ⟨c1, c2, c3, c4, c5⟩ := byt c hc
  obtain ⟨d1, d2, d3, d4, d5⟩ := byt d hd
  have hB := nB4 (bA a) (bA b) (bA c) (bA d) b1 c1 d1
  have hD := nD4 (bB (bA a)) (bB (bA b)) (bB (bA c)) (bB (bA d)) a3 ⟨b2, b3⟩ ⟨c2, c3⟩ d2
  rw [a4, b4, c4, d4] at hD
  have hp : ppN n 32 = ppN d 8 + (ppN c 8 + (ppN b 8 + ppN a 8)) := by
    rw [← hn2]
    rw [show 32 = 8 + (8 + (8 + 8)) by omega, ppN_add _ _ hd, ppN_add _ _ hc, ppN_add _ _ hb]
  rw [hn2] at hA
  rw [← hA] at hB
  rw [← hB] at hD
  have sA : nA n ≤ n := Nat.sub_le _ _
  have hB32 : nB (nA n) < 2 ^ 31 := by omega
  have e1 : nI n - (((nI n).toUInt32 >>> ((1 : Int32).toUInt32 &&& Int32.toUInt32 31)).toInt32 &&& 1431655765) = nI (nA n) := by
    have h5 : (n / 2) &&& 0x55555555 ≤ n := Nat.le_trans Nat.and_le_left (Nat.div_le_self _ _)
    rw [pk_ushrN hn 1 1 (by decide +kernel), show (1431655765 : Int32) = nI 0x55555555 from rfl, show n / 2 ^ 1 = n / 2 from rfl, nI_land, pk_sub h5]
    rfl
  have e2 : (nI (nA n) &&& 858993459) + (((nI (nA n)).toUInt32 >>> ((2 : Int32).toUInt32 &&& Int32.toUInt32 31)).toInt32 &&& 858993459) = nI (nB (nA n)) := by
    rw [pk_ushrN (by omega) 2 2 (by decide +kernel), show (858993459 : Int32) = nI 0x33333333 from rfl, show nA n / 2 ^ 2 = nA n / 4 from rfl, nI_land, nI_land, nI_add]
    rfl
  have e3 : (nI (nB (nA n)) + ((nI (nB (nA n))).toUInt32 >>> ((4 : Int32).toUInt32 &&& Int32.toUInt32 31)).toInt32) &&& 252645135 = nI (nD (nB (nA n))) := by
    rw [pk_ushrN (by omega) 4 4 (by decide +kernel), show (252645135 : Int32) = nI 0x0f0f0f0f from rfl, show nB (nA n) / 2 ^ 4 = nB (nA n) / 16 from rfl, nI_add, nI_land]
    rfl
  unfold bcnt
  simp only []
  rw [e1, e2, e3]
  generalize nD (nB (nA n)) = m at hD
  rw [hp]
  clear hp hA hB e1 e2 e3 sA hB32 a4 b4 c4 d4 hn hn2 a1 a2 a3 b1 b2 b3 c1 c2 c3 d1 d2 d3
  generalize ppN a 8 = A at *
  generalize ppN b 8 = B at *
  generalize ppN c 8 = C at *
  generalize ppN d 8 = D at *
  have hm : m < 2 ^ 32 := by omega
  have h1 : m / 2 ^ 8 = 65536 * A + 256 * B + C := by omega
  have h2 : (m + (65536 * A + 256 * B + C)) / 2 ^ 16 = 256 * A + A + B := by omega
  rw [pk_ushrN hm 8 8 (by decide +kernel), nI_add, h1]
  rw [pk_ushrN (by omega) 16 16 (by decide +kernel), h2, nI_add, pk_andN (by omega) 6 (by decide +kernel)]
  congr 1
  omega
