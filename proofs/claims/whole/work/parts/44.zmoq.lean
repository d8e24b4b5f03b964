/-- the reference, told in the class's numbers -/
def moQ (Z : gZ) (G : gh) (mo u1 u2 u3 u4 u5 u6 u7 : Nat) (th : Int32) (C E M D : Nat) (fl tp : Int32) (pt : Nat → Option Nat) (pd : Nat → Pat) : Prop :=
  ∃ cf mf ff gf sf tf bf, moP Z G mo u1 u2 u3 u4 u5 u6 u7 th C E M D fl cf mf ff gf sf tf bf ∧ Sim C E M pt pd cf mf ff gf sf ∧ simT D tp tf ∧ C ≤ 4 ∧ E ≤ 8 ∧ (fl = 0 ∨ fl = 1 ∨ fl = 2)
theorem isOk {r : Int32} {A B : Prop} (h : (r = 1 ∧ A) ∨ (r = 0 ∧ B)) (hr : ¬ r = 0) : A := by
  rcases h with h | h
  · exact h.2
  · exact absurd h.1 hr
theorem isNo {r : Int32} {A B : Prop} (h : (r = 1 ∧ A) ∨ (r = 0 ∧ B)) (hr : r = 0) : B := by
  rcases h with h | h
  · rw [h.1] at hr; exact absurd hr (by decide)
  · exact h.2
theorem vok {v : Int32} (h1 : ¬ v < -1) (h2 : v ≤ 1) : v = -1 ∨ v = 0 ∨ v = 1 := by
  rw [Int32.lt_iff_toInt_lt] at h1
  rw [Int32.le_iff_toInt_le] at h2
  have e1 : (1 : Int32).toInt = 1 := by decide
  have e2 : (-1 : Int32).toInt = -1 := by decide
  have e3 : (0 : Int32).toInt = 0 := by decide
  rcases (show v.toInt = -1 ∨ v.toInt = 0 ∨ v.toInt = 1 by omega) with h | h | h
  · exact Or.inl (Int32.toInt_inj.mp (by omega))
  · exact Or.inr (Or.inl (Int32.toInt_inj.mp (by omega)))
  · exact Or.inr (Or.inr (Int32.toInt_inj.mp (by omega)))
theorem vno1 {v : Int32} (h : v < -1) : ¬ (v = -1 ∨ v = 0 ∨ v = 1) := by rintro (rfl | rfl | rfl) <;> exact absurd h (by decide)
theorem vno2 {v : Int32} (h : ¬ v ≤ 1) : ¬ (v = -1 ∨ v = 0 ∨ v = 1) := by rintro (rfl | rfl | rfl) <;> exact absurd h (by decide)
section ZMOQ
variable {C E M : Nat} {pt : Nat → Option Nat} {pd : Nat → Pat} {cf mf ff gf sf : Nat → Int32}
theorem Sim.carV (h : Sim C E M pt pd cf mf ff gf sf) {i k q : Nat} (hi : i < M) (hg : gf i = 0) (hk : k < 4) (hq : q < 8) : carC (pca (pd i)) (pva (pd i)) (plC (nI k) (nI q)) = cf (32 * i + (8 * k + q)) := by
  rw [plC_on1 hk hq, carC_on1 _ (by omega), (h.2.2.2.2.1 i hi hg).2.1 _ (by omega)]
theorem Sim.cap (h : Sim C E M pt pd cf mf ff gf sf) {i k q : Nat} (hi : i < M) (hg : gf i = 0) (hC : C ≤ 4) (hE : E ≤ 8) (hk : k < C) (hq : q < E) {v : Int32} (hv : v = -1 ∨ v = 0 ∨ v = 1) : Sim C E M pt (va_up pd i (qcare (pd i) (plC (nI k) (nI q)) v)) (upd cf (32 * i + (8 * k + q)) v) mf ff gf (upd sf i (-1)) := by
  rw [plC_on1 (by omega) (by omega)]; exact h.ca hi hg hC hE hk hq hv
theorem zb_on1 {x y : Int32} {k : Nat} (hk : k < 32) (h : y = zb (tb x k)) : y = 0 ↔ x &&& on1 k = 0 := by rw [h, zb_eq, and_on1 _ hk]
theorem Sim.faz (h : Sim C E M pt pd cf mf ff gf sf) {i f : Nat} (hi : i < M) (hg : gf i = 0) (hf : f < 31) : ff (31 * i + f) = 0 ↔ pfa (pd i) &&& ((1 : Int32) <<< (nI f &&& 31)) = 0 := zb_on1 (by omega) ((h.2.2.2.2.1 i hi hg).2.2.2.1 f hf)
theorem Sim.mkz (h : Sim C E M pt pd cf mf ff gf sf) {i k q : Nat} (hi : i < M) (hg : gf i = 0) (hk : k < 4) (hq : q < 8) : mf (32 * i + (8 * k + q)) = 0 ↔ pmk (pd i) &&& plC (nI k) (nI q) = 0 := by rw [plC_on1 hk hq]; exact zb_on1 (by omega) ((h.2.2.2.2.1 i hi hg).2.2.1 _ (by omega))
theorem Sim.mkp (h : Sim C E M pt pd cf mf ff gf sf) {i k q : Nat} (hi : i < M) (hg : gf i = 0) (hk : k < 4) (hq : q < 8) : Sim C E M pt (va_up pd i (qmk (pd i) (pmk (pd i) ||| plC (nI k) (nI q)))) cf (upd mf (32 * i + (8 * k + q)) 1) ff gf sf := by rw [plC_on1 hk hq]; exact h.mk hi hg (by omega)
end ZMOQ
theorem tapC_zb (tp : Int32) {k : Nat} (hk : k < 32) : tapC tp (nI k) = zb (tb tp k) := by
  unfold tapC
  by_cases h : tp &&& on1 k = 0
  · rw [if_pos h, (and_on1 _ hk).mp h]; rfl
  · rw [if_neg h, show tb tp k = true by rw [and_on1 _ hk] at h; simpa using h]; rfl
theorem simT_deg {N : Nat} {t9 : Nat → Int32} (h1 : 1 ≤ N) (h2 : N ≤ 16) (h : ∀ j, j < 16 → t9 j = zb (decide (j = N - 1))) : simT N ((1 : Int32) <<< ((nI N - 1) &&& 31)) t9 := by
  rw [nI_pred1 h1]
  refine ⟨h1, h2, fun k hk => ?_, fun k hk hk2 => ?_⟩
  · rw [h k hk]; show _ = zb (tb (on1 (N - 1)) k); rw [tb_on1 (by omega) (by omega)]
  · show tb (on1 (N - 1)) k = false; rw [tb_on1 (by omega) hk2]; simp; omega
theorem simT_tap {D k : Nat} {tp b : Int32} {tf : Nat → Int32} (hT : simT D tp tf) (hk : k < D) (hb : b = 0 ∨ b = 1) (hn : ¬ tapC tp (nI k) = b) : simT D (tp ^^^ ((1 : Int32) <<< (nI k &&& 31))) (upd tf k b) := by
  have hD := hT.2.1
  rw [tapC_zb _ (by omega)] at hn
  refine ⟨hT.1, hT.2.1, fun j hj => ?_, fun j hj hj2 => ?_⟩
  · show _ = zb (tb (tp ^^^ on1 k) j)
    rw [tb_xor, tb_on1 (by omega) (by omega)]
    by_cases e : j = k
    · subst e
      rw [pk_us]
      revert hn
      rcases hb with rfl | rfl <;> cases tb tp j <;> simp [zb]
    · rw [pk_un e, hT.2.2.1 j hj]; simp [e]
  · show tb (tp ^^^ on1 k) j = false
    rw [tb_xor, tb_on1 (by omega) hj2, hT.2.2.2 j hj hj2]
    simp
    omega
theorem fl3 {v : Int32} (h : ∃ k, k < 3 ∧ v = nI k) : v = 0 ∨ v = 1 ∨ v = 2 := by
  obtain ⟨k, hk, rfl⟩ := h
  rcases (show k = 0 ∨ k = 1 ∨ k = 2 by omega) with rfl | rfl | rfl
  · exact Or.inl rfl
  · exact Or.inr (Or.inl rfl)
  · exact Or.inr (Or.inr rfl)
theorem zb_bits (B : Int32) {c k : Nat} (hc : c < 4) (hk : k + 1 < 8) : (zb (tb B (8 * c + k)) = zb (tb B (8 * c + (k + 1)))) ↔ ((B &&& plC (nI c) (nI k) = 0) ↔ (B &&& plC (nI c) (nI (k + 1)) = 0)) := by
  rw [plC_on1 hc (by omega), plC_on1 hc (by omega), and_on1 _ (by omega), and_on1 _ (by omega)]
  cases tb B (8 * c + k) <;> cases tb B (8 * c + (k + 1)) <;> decide
theorem sh_add (a : Int64) {k : Nat} (hk : k < 100) : a + (nI k).toInt64 + 1 = a + (nI (k + 1)).toInt64 := by
  rw [nI_l (by omega), nI_l (by omega), Int64.add_assoc, lN_1]
theorem sh0 (x : Int32) : (0 : Int32) <<< x = 0 := by
  apply Int32.toBitVec_inj.mp
  rw [Int32.toBitVec_shiftLeft]
  simp
theorem xor00 (x : Int32) : x ^^^ 0 = x := by simp
/-- a bit of a signature comes in -/
theorem tk_in {D E t c q : Nat} {bits b v : Int32} (hD1 : 1 ≤ D) (hD : D ≤ 16) (hE : E ≤ 8) (hc : c < 4) (hq : q < E) (ht : t = E - (q + 1)) (hv : v = zb (tb bits (8 * c + q))) : b ^^^ (v <<< (nI (c % D) &&& 31)) = if bits &&& plC (nI c) (nI E - 1 - nI t) = 0 then b else b ^^^ ((1 : Int32) <<< (sarC (nI D) (nI c) &&& 31)) := by
  rw [pl_e hE (by omega) hc, sar_n hD1 hD (by omega), show 8 * c + (E - 1 - t) = 8 * c + q by omega, hv]
  by_cases h : bits &&& on1 (8 * c + q) = 0
  · rw [if_pos h, (and_on1 _ (by omega)).mp h]
    show b ^^^ ((0 : Int32) <<< _) = b
    rw [sh0, xor00]
  · rw [if_neg h]
    rw [and_on1 _ (by omega)] at h
    rw [show tb bits (8 * c + q) = true by simpa using h]
    rfl
