/-! How the reference's arrays follow the class's numbers. -/
section STEPS
variable {C E M : Nat} {pt : Nat → Option Nat} {pd : Nat → Pat} {cf mf ff gf sf : Nat → Int32}
theorem simP.congr {P : Pat} {sd sd' : Int32} {cf' mf' ff' : Nat → Int32} {i : Nat} (h : simP C E P sd cf mf ff i) (hs : sd' = sd) (hc : ∀ k, k < 32 → cf' (32 * i + k) = cf (32 * i + k)) (hm : ∀ k, k < 32 → mf' (32 * i + k) = mf (32 * i + k)) (hf : ∀ k, k < 31 → ff' (31 * i + k) = ff (31 * i + k)) : simP C E P sd' cf' mf' ff' i :=
  ⟨hs.trans h.1, fun k hk => (hc k hk).trans (h.2.1 k hk), fun k hk => (hm k hk).trans (h.2.2.1 k hk), fun k hk => (hf k hk).trans (h.2.2.2.1 k hk), h.2.2.2.2⟩
theorem Sim.up {cf' mf' ff' sf' : Nat → Int32} (h : Sim C E M pt pd cf mf ff gf sf) {i : Nat} (hi : i < M) (hg : gf i = 0) {P' : Pat} (hP : simP C E P' (sf' i) cf' mf' ff' i) (hgn : pgn P' = pgn (pd i)) (hc : ∀ j, j < 32 * i ∨ 32 * i + 32 ≤ j → cf' j = cf j) (hm : ∀ j, j < 32 * i ∨ 32 * i + 32 ≤ j → mf' j = mf j) (hf : ∀ j, j < 31 * i ∨ 31 * i + 31 ≤ j → ff' j = ff j) (hs : ∀ j, j ≠ i → sf' j = sf j) : Sim C E M pt (va_up pd i P') cf' mf' ff' gf sf' := by
  refine ⟨h.1, h.2.1, h.2.2.1, fun j hj => ?_, fun j hj hgj => ?_, fun j hj hj2 => ?_⟩
  · by_cases e : j = i
    · subst e; rw [va_up_self, hgn]; exact h.2.2.2.1 j hj
    · rw [va_up_ne _ _ e]; exact h.2.2.2.1 j hj
  · by_cases e : j = i
    · subst e; rw [va_up_self]; exact hP
    · rw [va_up_ne _ _ e]
      exact (h.2.2.2.2.1 j hj hgj).congr (hs j e) (fun k hk => hc _ (by omega)) (fun k hk => hm _ (by omega)) (fun k hk => hf _ (by omega))
  · have h9 := h.2.2.2.2.2 j hj hj2
    exact ⟨h9.1, fun k hk => (hm _ (by omega)).trans (h9.2.1 k hk), fun k hk => (hf _ (by omega)).trans (h9.2.2 k hk)⟩
theorem Sim.gone (h : Sim C E M pt pd cf mf ff gf sf) {i : Nat} (hi : i < M) : Sim C E M pt (va_up pd i (qgn (pd i) 1)) cf mf ff (upd gf i 1) sf := by
  refine ⟨h.1, h.2.1, h.2.2.1, fun j hj => ?_, fun j hj hgj => ?_, fun j hj hj2 => ?_⟩
  · by_cases e : j = i
    · subst e; rw [va_up_self, pk_us]; constructor <;> intro z <;> exact absurd (show (1 : Int32) = 0 from z) (by decide)
    · rw [va_up_ne _ _ e, pk_un e]; exact h.2.2.2.1 j hj
  · by_cases e : j = i
    · subst e; rw [pk_us] at hgj; exact absurd hgj (by decide)
    · rw [va_up_ne _ _ e]; rw [pk_un e] at hgj; exact h.2.2.2.2.1 j hj hgj
  · rw [pk_un (by omega)]; exact h.2.2.2.2.2 j hj hj2
theorem Sim.still (h : Sim C E M pt pd cf mf ff gf sf) {i : Nat} (hi : i < M) (hg : ¬ gf i = 0) : Sim C E M pt pd cf mf ff (upd gf i 1) sf := by
  refine ⟨h.1, h.2.1, h.2.2.1, fun j hj => ?_, fun j hj hgj => ?_, fun j hj hj2 => ?_⟩
  · by_cases e : j = i
    · subst e; rw [pk_us]; constructor
      · intro z; exact absurd z (by decide)
      · intro z; exact absurd ((h.2.2.2.1 j hj).mpr z) hg
    · rw [pk_un e]; exact h.2.2.2.1 j hj
  · by_cases e : j = i
    · subst e; rw [pk_us] at hgj; exact absurd hgj (by decide)
    · rw [pk_un e] at hgj; exact h.2.2.2.2.1 j hj hgj
  · rw [pk_un (by omega)]; exact h.2.2.2.2.2 j hj hj2
theorem upd_same {f : Nat → Int32} {k : Nat} {x : Int32} (h : f k = x) : upd f k x = f := by
  funext j
  by_cases e : j = k
  · subst e; rw [pk_us, h]
  · exact pk_un e
abbrev pat0 : Pat := (0, 0, 0, 0, -1, 0)
theorem Sim.push {cf' : Nat → Int32} (h : Sim C E M pt pd cf mf ff gf sf) (hM : M < 24) (q : Nat) (hc : ∀ k, k < 32 → cf' (32 * M + k) = -1) (hc2 : ∀ j, j < 32 * M → cf' j = cf j) : Sim C E (M + 1) (va_up pt M (some q)) (va_up pd M pat0) cf' mf ff gf (upd sf M (-1)) := by
  have h9 := h.2.2.2.2.2 M (Nat.le_refl _) hM
  refine ⟨by omega, fun j hj => ?_, fun j hj hj2 => ?_, fun j hj => ?_, fun j hj hgj => ?_, fun j hj hj2 => h.2.2.2.2.2 j (by omega) hj2⟩
  · by_cases e : j = M
    · subst e; rw [va_up_self]; rfl
    · rw [va_up_ne _ _ e]; exact h.2.1 j (by omega)
  · rw [va_up_ne _ _ (by omega)]; exact h.2.2.1 j (by omega) hj2
  · by_cases e : j = M
    · subst e; rw [va_up_self, h9.1]; constructor <;> intro _ <;> rfl
    · rw [va_up_ne _ _ e]; exact h.2.2.2.1 j (by omega)
  · by_cases e : j = M
    · subst e
      rw [va_up_self, pk_us]
      refine ⟨rfl, fun k hk => ?_, fun k hk => ?_, fun k hk => ?_, tb_0 _, fun k hk hv => ?_, fun k hk hv => ?_⟩
      · rw [hc k hk]; show _ = if tb 0 k then _ else _; rw [tb_0]; rfl
      · rw [h9.2.1 k hk]; show _ = zb (tb 0 k); rw [tb_0]; rfl
      · rw [h9.2.2 k hk]; show _ = zb (tb 0 k); rw [tb_0]; rfl
      · have h8 : tb 0 k = true := hv
        rw [tb_0] at h8; cases h8
      · have h8 : tb 0 k = true := hv
        rw [tb_0] at h8; cases h8
    · rw [va_up_ne _ _ e, pk_un e]
      exact (h.2.2.2.2.1 j (by omega) hgj).congr rfl (fun k hk => hc2 _ (by omega)) (fun _ _ => rfl) (fun _ _ => rfl)
theorem Sim.sd (h : Sim C E M pt pd cf mf ff gf sf) {i : Nat} (hi : i < M) (hg : gf i = 0) (v : Int32) : Sim C E M pt (va_up pd i (qsd (pd i) v)) cf mf ff gf (upd sf i v) :=
  h.up hi hg (P' := qsd (pd i) v) ⟨pk_us, (h.2.2.2.2.1 i hi hg).2⟩ rfl (fun _ _ => rfl) (fun _ _ => rfl) (fun _ _ => rfl) (fun j hj => pk_un hj)
theorem Sim.fa (h : Sim C E M pt pd cf mf ff gf sf) {i f : Nat} (hi : i < M) (hg : gf i = 0) (hf : f < 31) : Sim C E M pt (va_up pd i (qfa (pd i) (pfa (pd i) ||| on1 f))) cf mf (upd ff (31 * i + f) 1) gf sf := by
  have hS := h.2.2.2.2.1 i hi hg
  refine h.up hi hg (P' := qfa (pd i) (pfa (pd i) ||| on1 f)) ⟨hS.1, hS.2.1, hS.2.2.1, fun k hk => ?_, ?_, hS.2.2.2.2.2⟩ rfl (fun _ _ => rfl) (fun _ _ => rfl) (fun j hj => pk_un (by omega)) (fun _ _ => rfl)
  · show _ = zb (tb (pfa (pd i) ||| on1 f) k)
    rw [tb_or, tb_on1 (by omega) (by omega)]
    by_cases e : k = f
    · subst e; rw [pk_us]; simp [zb]
    · rw [pk_un (by omega), hS.2.2.2.1 k hk]; simp [e]
  · show tb (pfa (pd i) ||| on1 f) 31 = false
    rw [tb_or, hS.2.2.2.2.1, tb_on1 (by omega) (by omega)]
    simp
    omega
theorem Sim.mk (h : Sim C E M pt pd cf mf ff gf sf) {i f : Nat} (hi : i < M) (hg : gf i = 0) (hf : f < 32) : Sim C E M pt (va_up pd i (qmk (pd i) (pmk (pd i) ||| on1 f))) cf (upd mf (32 * i + f) 1) ff gf sf := by
  have hS := h.2.2.2.2.1 i hi hg
  refine h.up hi hg (P' := qmk (pd i) (pmk (pd i) ||| on1 f)) ⟨hS.1, hS.2.1, fun k hk => ?_, hS.2.2.2⟩ rfl (fun _ _ => rfl) (fun j hj => pk_un (by omega)) (fun _ _ => rfl) (fun _ _ => rfl)
  · show _ = zb (tb (pmk (pd i) ||| on1 f) k)
    rw [tb_or, tb_on1 hf hk]
    by_cases e : k = f
    · subst e; rw [pk_us]; simp [zb]
    · rw [pk_un (by omega), hS.2.2.1 k hk]; simp [e]
theorem Sim.ca (h : Sim C E M pt pd cf mf ff gf sf) {i k q : Nat} (hi : i < M) (hg : gf i = 0) (hC : C ≤ 4) (hE : E ≤ 8) (hk : k < C) (hq : q < E) {v : Int32} (hv : v = -1 ∨ v = 0 ∨ v = 1) : Sim C E M pt (va_up pd i (qcare (pd i) (on1 (8 * k + q)) v)) (upd cf (32 * i + (8 * k + q)) v) mf ff gf (upd sf i (-1)) := by
  have hS := h.2.2.2.2.1 i hi hg
  have hb : 8 * k + q < 32 := by omega
  have ec : ∀ j, j < 32 → tb (pca (qcare (pd i) (on1 (8 * k + q)) v)) j = if j = 8 * k + q then decide (¬ v = -1) else tb (pca (pd i)) j := fun j hj => by
    show tb (if v = -1 then _ else _) j = _
    by_cases e : v = -1
    · rw [if_pos e, tb_and, tb_not _ hj, tb_on1 hb hj]; by_cases e2 : j = 8 * k + q <;> simp [e2, e]
    · rw [if_neg e, tb_or, tb_on1 hb hj]; by_cases e2 : j = 8 * k + q <;> simp [e2, e]
  have ev : ∀ j, j < 32 → tb (pva (qcare (pd i) (on1 (8 * k + q)) v)) j = if j = 8 * k + q then decide (v = 1) else tb (pva (pd i)) j := fun j hj => by
    show tb (if v = 1 then _ else _) j = _
    by_cases e : v = 1
    · rw [if_pos e, tb_or, tb_on1 hb hj]; by_cases e2 : j = 8 * k + q <;> simp [e2, e]
    · rw [if_neg e, tb_and, tb_not _ hj, tb_on1 hb hj]; by_cases e2 : j = 8 * k + q <;> simp [e2, e]
  refine h.up hi hg (P' := qcare (pd i) (on1 (8 * k + q)) v) ⟨pk_us, fun j hj => ?_, hS.2.2.1, hS.2.2.2.1, hS.2.2.2.2.1, fun j hj => ?_, fun j hj => ?_⟩ rfl (fun j hj => pk_un (by omega)) (fun _ _ => rfl) (fun _ _ => rfl) (fun j hj => pk_un hj)
  · unfold cvC
    rw [ec j hj, ev j hj]
    by_cases e : j = 8 * k + q
    · subst e
      rw [pk_us, if_pos rfl, if_pos rfl]
      rcases hv with e1 | e1 | e1 <;> rw [e1] <;> decide
    · rw [pk_un (by omega), if_neg e, if_neg e, hS.2.1 j hj]; rfl
  · rw [ec j hj, ev j hj]
    by_cases e : j = 8 * k + q
    · rw [if_pos e, if_pos e]; intro z; have z1 : v = 1 := by simpa using z
      rw [z1]; decide
    · rw [if_neg e, if_neg e]; exact hS.2.2.2.2.2.1 j hj
  · rw [ec j hj]
    by_cases e : j = 8 * k + q
    · intro _; omega
    · rw [if_neg e]; exact hS.2.2.2.2.2.2 j hj
theorem Sim.sm {sf' : Nat → Int32} (h : Sim C E M pt pd cf mf ff gf sf) (hs : ∀ j, j < M → sf' j = sf j) : Sim C E M pt pd cf mf ff gf sf' :=
  ⟨h.1, h.2.1, h.2.2.1, h.2.2.2.1, fun j hj hg => (h.2.2.2.2.1 j hj hg).congr (hs j hj) (fun _ _ => rfl) (fun _ _ => rfl) (fun _ _ => rfl), h.2.2.2.2.2⟩
theorem prN_gn {pd' : Nat → Pat} {i : Nat} (h : pgn (pd' i) = pgn (pd i)) : (prN pt pd' i) = prN pt pd i := by unfold prN; rw [h]
theorem fgN_at (n i : Nat) : fgN pt pd n i = if i < n ∧ (prN pt pd i).isSome = true then qsd (pd i) (-1) else pd i := by
  induction n with
  | zero => simp [fgN, itr]
  | succ n ih =>
    have e0 : fgN pt pd (n + 1) = if (prN pt (fgN pt pd n) n).isSome then va_up (fgN pt pd n) n (qsd (fgN pt pd n n) (-1)) else fgN pt pd n := rfl
    have e1 : fgN pt pd n n = pd n := by
      have : ∀ m i, m ≤ i → fgN pt pd m i = pd i := by
        intro m
        induction m with
        | zero => intro i _; rfl
        | succ m ih2 =>
          intro i hi
          have e3 : fgN pt pd (m + 1) = if (prN pt (fgN pt pd m) m).isSome then va_up (fgN pt pd m) m (qsd (fgN pt pd m m) (-1)) else fgN pt pd m := rfl
          rw [e3]
          split
          · rw [va_up_ne _ _ (by omega)]; exact ih2 i (by omega)
          · exact ih2 i (by omega)
      exact this n n (Nat.le_refl _)
    have e2 : prN pt (fgN pt pd n) n = prN pt pd n := prN_gn (by rw [e1])
    rw [e0, e2, e1]
    by_cases hp : (prN pt pd n).isSome = true
    · rw [if_pos hp]
      by_cases e : i = n
      · subst e; rw [va_up_self, if_pos ⟨by omega, hp⟩]
      · rw [va_up_ne _ _ e, ih]
        congr 1
        apply propext
        constructor <;> intro z <;> exact ⟨by omega, z.2⟩
    · rw [if_neg hp, ih]
      by_cases e : i = n
      · subst e; simp [hp]
      · congr 1
        apply propext
        constructor <;> intro z <;> exact ⟨by omega, z.2⟩
theorem Sim.fg {s : Nat → Int32} (h : Sim C E M pt pd cf mf ff gf sf) (hs : ∀ p, p < M → s p = -1) : Sim C E M pt (fgN pt pd 24) cf mf ff gf s := by
  have hM := h.1
  have e1 : ∀ i, pgn (fgN pt pd 24 i) = pgn (pd i) := fun i => by rw [fgN_at]; split <;> rfl
  refine ⟨h.1, h.2.1, h.2.2.1, fun j hj => by rw [e1]; exact h.2.2.2.1 j hj, fun j hj hg => ?_, h.2.2.2.2.2⟩
  rw [fgN_at, if_pos ⟨by omega, (h.pr (by omega)).mpr ⟨hj, hg⟩⟩]
  exact ⟨hs j hj, (h.2.2.2.2.1 j hj hg).2⟩
end STEPS
