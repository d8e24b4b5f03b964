theorem p01 {q : Int32} (h1 : ¬ q < 0) (h2 : q ≤ 1) : q = 0 ∨ q = 1 := by
  rw [Int32.lt_iff_toInt_lt] at h1
  rw [Int32.le_iff_toInt_le] at h2
  have e1 : (1 : Int32).toInt = 1 := by decide
  have e3 : (0 : Int32).toInt = 0 := by decide
  rcases (show q.toInt = 0 ∨ q.toInt = 1 by omega) with h | h
  · exact Or.inl (Int32.toInt_inj.mp (by omega))
  · exact Or.inr (Int32.toInt_inj.mp (by omega))
theorem rng4 {n : Int32} (h1 : ¬ n < 0) (h2 : n ≤ 4) : ∃ N, N < 5 ∧ n = nI N := by
  rw [Int32.le_iff_toInt_le] at h2
  have e2 : (4 : Int32).toInt = 4 := by decide
  rcases pk_ix n (n := 5) (by omega) with h9 | h9 | h9
  · exact absurd h9 h1
  · rw [Int32.le_iff_toInt_le, nI_toInt (by omega)] at h9; omega
  · exact h9
theorem upd_upd {f : Nat → Int32} {k : Nat} {x y : Int32} : upd (upd f k x) k y = upd f k y := by
  funext j
  by_cases e : j = k
  · subst e; rw [pk_us, pk_us]
  · rw [pk_un e, pk_un e, pk_un e]
section ZLEM
variable {D C E : Nat} {tp v : Int32}
def sdI (D : Nat) (tp : Int32) (C E : Nat) (P : Pat) (n : Nat) (v : Int32) : Prop := (v = -1 ∧ ∀ u, u < n → ¬ mkOk D tp C E P (nI u)) ∨ (∃ u, u < n ∧ v = nI u ∧ mkOk D tp C E P (nI u) ∧ ∀ w, w < u → ¬ mkOk D tp C E P (nI w))
theorem sd_no {P : Pat} {n : Nat} (hn : n < 65536) (h : sdI D tp C E P n (-1)) : ∀ u, u < n → ¬ mkOk D tp C E P (nI u) := by
  rcases h with h | ⟨u, hu, hv, _⟩
  · exact h.2
  · exact absurd (show nI u < 0 by rw [← hv]; decide) (nI_pos (by omega))
theorem sd_hit {P : Pat} {n : Nat} (hn : n < 65536) (h : sdI D tp C E P n (-1)) (hk : mkOk D tp C E P (nI n)) : sdI D tp C E P (n + 1) (nI n) := Or.inr ⟨n, by omega, rfl, hk, sd_no hn h⟩
theorem sd_miss {P : Pat} {n : Nat} (hn : n < 65536) (h : sdI D tp C E P n (-1)) (hk : ¬ mkOk D tp C E P (nI n)) : sdI D tp C E P (n + 1) (-1) := Or.inl ⟨rfl, fun u hu => by
  by_cases e : u = n
  · subst e; exact hk
  · exact sd_no hn h u (by omega)⟩
theorem sd_fin {P : Pat} {n : Nat} (hD1 : 1 ≤ D) (hD : D ≤ 16) (hC : C ≤ 4) (hE : E ≤ 8) (hn : n ≤ 2 ^ D) (h : sdI D tp C E P n v) (hx : 2 ^ D ≤ n ∨ ¬ v = -1) : lsC (nI D) tp C E D (pca P) (pva P) = v := by
  rcases h with ⟨h1, h2⟩ | ⟨u, h1, h2, h3, h4⟩
  · rw [h1]
    rcases hx with h9 | h9
    · exact ls_none hD1 hD hC hE (fun u hu => h2 u (by omega))
    · exact absurd h1 h9
  · rw [h2]
    exact ls_some hD1 hD hC hE (by omega) h3 h4
end ZLEM
section ZJN
variable {pt : Nat → Option Nat} {P P2 : Nat → Pat} {i n : Nat}
theorem jn_no (hP2 : P2 = jnQ pt i P n) (h : ¬ ((prN pt P2 i).isSome = true ∧ (prN pt P2 (i + 1 + n)).isSome = true ∧ ¬ gowC (pca (P2 i)) (pva (P2 i)) (pca (P2 (i + 1 + n))) (pva (P2 (i + 1 + n))) = 0)) : P2 = jnQ pt i P (n + 1) := by
  rw [jnQ_s, ← hP2]
  by_cases h1 : (prN pt P i).isSome = true
  · rw [if_pos h1]
    unfold tkS
    rw [if_neg]
    intro z
    exact h ⟨by rw [hP2, jnQ_pr]; exact h1, z.1, z.2⟩
  · rw [if_neg h1]
theorem jn_yes (hP2 : P2 = jnQ pt i P n) (h1 : (prN pt P2 i).isSome = true) (h2 : (prN pt P2 (i + 1 + n)).isSome = true) (h3 : ¬ gowC (pca (P2 i)) (pva (P2 i)) (pca (P2 (i + 1 + n))) (pva (P2 (i + 1 + n))) = 0) : va_up (va_up P2 i (qtake (P2 i) (P2 (i + 1 + n)))) (i + 1 + n) (qgn (P2 (i + 1 + n)) 1) = jnQ pt i P (n + 1) := by
  rw [jnQ_s, ← hP2, if_pos (by rw [hP2, jnQ_pr] at h1; exact h1)]
  unfold tkS
  rw [if_pos ⟨h2, h3⟩]
end ZJN
theorem simT_8 : simT 8 128 (upd (fun _ => 0) 7 1) := by
  have h1 : ∀ k, k < 16 → upd (fun _ => 0) 7 1 k = zb (tb 128 k) := by decide +kernel
  have h2 : ∀ k, k < 32 → 8 ≤ k → tb 128 k = false := by decide +kernel
  exact ⟨by omega, by omega, h1, fun k a b => h2 k b a⟩
theorem Sim.start (C E : Nat) (pd : Nat → Pat) (cf sf : Nat → Int32) : Sim C E 0 (fun _ => none) pd cf (fun _ => 0) (fun _ => 0) (fun _ => 0) sf :=
  ⟨by omega, fun i h => by omega, fun _ _ _ => rfl, fun i h => by omega, fun i h => by omega, fun _ _ _ => ⟨rfl, fun _ _ => rfl, fun _ _ => rfl⟩⟩
theorem sSeed {C E M : Nat} {pt : Nat → Option Nat} {pd : Nat → Pat} {cf mf ff gf sf : Nat → Int32} (h : Sim C E M pt pd cf mf ff gf sf) {i : Nat} (hi : i < M) : ((prN pt pd i).isSome = true ∧ psd (pd i) ≠ -1) ↔ (gf i = 0 ∧ ¬ sf i = -1) := by
  have hM := h.1
  rw [h.pr (by omega)]
  constructor
  · intro ⟨⟨_, hg⟩, h2⟩
    exact ⟨hg, by rw [(h.2.2.2.2.1 i hi hg).1]; exact h2⟩
  · intro ⟨hg, h2⟩
    exact ⟨⟨hi, hg⟩, by rw [(h.2.2.2.2.1 i hi hg).1] at h2; exact h2⟩
theorem gKe.upn {P : Nat → Prop} {G G' : gh} (h : gKe P G G') {a : Nat} {e : va_E} (ha : G a = none) : gKe P G (gup G' a e) := fun q h1 h2 => by rw [gup_ne _ _ (fun z => h2 (by rw [z]; exact ha))]; exact h q h1 h2
