/-! What a seed makes, bit by bit. -/
def sti (D : Nat) (tp sd : Int32) (n : Nat) : Int32 := itr (fun _ a => stepC (nI D) tp a) sd n
theorem sar_n {D m : Nat} (h1 : 1 ≤ D) (h2 : D ≤ 16) (hm : m < 2 ^ 31) : sarC (nI D) (nI m) = nI (m % D) := by
  unfold sarC
  rw [if_pos (show (1 : Int32) ≤ nI D from nI_le (a := 1) h1 (by omega)), pk_rem hm (by omega) (by omega)]
theorem five_n (k : Nat) : 5 * nI k + 1 = nI (5 * k + 1) := by
  rw [show (5 : Int32) = nI 5 from rfl, pk_mul, nI_1]
theorem pl_e {E t k : Nat} (hE : E ≤ 8) (ht : t < E) (hk : k < 4) : plC (nI k) (nI E - 1 - nI t) = on1 (8 * k + (E - 1 - t)) := by
  rw [show nI E - 1 = nI (E - 1) from pk_sub (a := E) (b := 1) (by omega), pk_sub (by omega), plC_on1 hk (by omega)]
theorem tb_mkI {D E t : Nat} {st b : Int32} (hD1 : 1 ≤ D) (hD : D ≤ 16) (hE : E ≤ 8) (ht : t < E) : ∀ n, n ≤ 4 → ∀ j, j < 32 → tb (mkI (nI D) E t st b n) j = (tb b j || (decide (j / 8 < n ∧ j % 8 = E - 1 - t) && tb st ((5 * (j / 8) + 1) % D)))
  | 0, _, j, _ => by simp [mkI, itr]
  | n + 1, hn, j, hj => by
    have ih := tb_mkI (st := st) (b := b) hD1 hD hE ht n (by omega) j hj
    have hm : (5 * n + 1) % D < 16 := Nat.lt_of_lt_of_le (Nat.mod_lt _ (by omega)) hD
    have e1 : mkI (nI D) E t st b (n + 1) = if st &&& on1 ((5 * n + 1) % D) = 0 then mkI (nI D) E t st b n else mkI (nI D) E t st b n ||| on1 (8 * n + (E - 1 - t)) := by
      rw [← pl_e hE ht (show n < 4 by omega)]
      show (if st &&& ((1 : Int32) <<< (sarC (nI D) (5 * nI n + 1) &&& 31)) = 0 then _ else _) = _
      rw [five_n, sar_n hD1 hD (by omega)]
      rfl
    rw [e1]
    by_cases hc : st &&& on1 ((5 * n + 1) % D) = 0
    · rw [if_pos hc, ih]
      rw [and_on1 _ (by omega)] at hc
      by_cases hjn : j / 8 = n
      · rw [hjn, hc]; simp
      · rw [show decide (j / 8 < n + 1 ∧ j % 8 = E - 1 - t) = decide (j / 8 < n ∧ j % 8 = E - 1 - t) by apply decide_eq_decide.mpr; omega]
    · rw [if_neg hc, tb_or, ih, tb_on1 (by omega) hj]
      rw [and_on1 _ (by omega)] at hc
      by_cases hje : j = 8 * n + (E - 1 - t)
      · have h1 : j / 8 = n := by omega
        have h2 : j % 8 = E - 1 - t := by omega
        have h3 : tb st ((5 * n + 1) % D) = true := by simpa using hc
        rw [h1, h2, h3]; simp [hje]
      · rw [show decide (j / 8 < n + 1 ∧ j % 8 = E - 1 - t) = decide (j / 8 < n ∧ j % 8 = E - 1 - t) by apply decide_eq_decide.mpr; omega]
        simp [hje]
theorem tb_mkC {D C E : Nat} {tp sd : Int32} (hD1 : 1 ≤ D) (hD : D ≤ 16) (hC : C ≤ 4) (hE : E ≤ 8) : ∀ n, n ≤ E → (mkC (nI D) tp C E sd n).2 = sti D tp sd n ∧ ∀ j, j < 32 → tb (mkC (nI D) tp C E sd n).1 j = (decide (j / 8 < C ∧ j % 8 < E ∧ E - 1 - j % 8 < n) && tb (sti D tp sd (E - 1 - j % 8)) ((5 * (j / 8) + 1) % D))
  | 0, _ => ⟨rfl, fun j hj => by simp [mkC, itr, tb_0]⟩
  | n + 1, hn => by
    obtain ⟨ih1, ih2⟩ := tb_mkC (tp := tp) (sd := sd) hD1 hD hC hE n (by omega)
    have e1 : mkC (nI D) tp C E sd (n + 1) = (mkI (nI D) E n (mkC (nI D) tp C E sd n).2 (mkC (nI D) tp C E sd n).1 C, stepC (nI D) tp (mkC (nI D) tp C E sd n).2) := rfl
    rw [e1]
    refine ⟨by rw [ih1]; rfl, fun j hj => ?_⟩
    show tb (mkI (nI D) E n (mkC (nI D) tp C E sd n).2 (mkC (nI D) tp C E sd n).1 C) j = _
    rw [tb_mkI hD1 hD hE (by omega) C hC j hj, ih2 j hj, ih1]
    by_cases h1 : j % 8 = E - 1 - n
    · rw [show E - 1 - j % 8 = n by omega]
      rw [show decide (j / 8 < C ∧ j % 8 < E ∧ n < n) = false by simp, show decide (j / 8 < C ∧ j % 8 < E ∧ n < n + 1) = decide (j / 8 < C ∧ j % 8 = E - 1 - n) by apply decide_eq_decide.mpr; omega]
      simp
    · rw [show decide (j / 8 < C ∧ j % 8 = E - 1 - n) = false by simp [h1], show decide (j / 8 < C ∧ j % 8 < E ∧ E - 1 - j % 8 < n + 1) = decide (j / 8 < C ∧ j % 8 < E ∧ E - 1 - j % 8 < n) by apply decide_eq_decide.mpr; omega]
      simp
theorem tb_make {D C E : Nat} {tp sd : Int32} (hD1 : 1 ≤ D) (hD : D ≤ 16) (hC : C ≤ 4) (hE : E ≤ 8) {j : Nat} (hj : j < 32) : tb (makeC (nI D) tp C E sd) j = (decide (j / 8 < C ∧ j % 8 < E) && tb (sti D tp sd (E - 1 - j % 8)) ((5 * (j / 8) + 1) % D)) := by
  show tb (mkC (nI D) tp C E sd E).1 j = _
  rw [(tb_mkC hD1 hD hC hE E (Nat.le_refl _)).2 j hj]
  congr 1
  apply decide_eq_decide.mpr
  omega
theorem tb_make' {D C E k q : Nat} {tp sd : Int32} (hD1 : 1 ≤ D) (hD : D ≤ 16) (hC : C ≤ 4) (hE : E ≤ 8) (hk : k < C) (hq : q < E) : tb (makeC (nI D) tp C E sd) (8 * k + q) = tb (sti D tp sd (E - 1 - q)) ((5 * k + 1) % D) := by
  rw [tb_make hD1 hD hC hE (by omega), show (8 * k + q) / 8 = k by omega, show (8 * k + q) % 8 = q by omega]
  simp [hk, hq]
/-- a seed makes a pattern -/
def mkOk (D : Nat) (tp : Int32) (C E : Nat) (P : Pat) (s : Int32) : Prop := makeC (nI D) tp C E s &&& pca P = pva P
def okc (D : Nat) (tp : Int32) (E : Nat) (cf : Nat → Int32) (i : Nat) (s : Int32) (c q : Nat) : Prop := cf (32 * i + (8 * c + q)) = -1 ∨ cf (32 * i + (8 * c + q)) = zb (tb (sti D tp s (E - 1 - q)) ((5 * c + 1) % D))
theorem mk_ok {D C E i : Nat} {tp sd s : Int32} {P : Pat} {cf mf ff : Nat → Int32} (hD1 : 1 ≤ D) (hD : D ≤ 16) (hC : C ≤ 4) (hE : E ≤ 8) (h : simP C E P sd cf mf ff i) : (∀ c, c < C → ∀ q, q < E → okc D tp E cf i s c q) ↔ mkOk D tp C E P s := by
  obtain ⟨-, h2, -, -, -, h6, h7⟩ := h
  constructor
  · intro ha
    apply tb_ext
    intro j hj
    rw [tb_and]
    cases hb : tb (pca P) j with
    | false =>
      cases hv : tb (pva P) j with
      | false => simp
      | true => rw [h6 j hj hv] at hb; cases hb
    | true =>
      have h9 := h7 j hj hb
      have := ha (j / 8) h9.1 (j % 8) h9.2
      unfold okc at this
      rw [show 8 * (j / 8) + j % 8 = j by omega, h2 j hj, ← tb_make' hD1 hD hC hE h9.1 h9.2, show 8 * (j / 8) + j % 8 = j by omega] at this
      unfold cvC at this
      rw [hb] at this
      revert this
      cases tb (pva P) j <;> cases tb (makeC (nI D) tp C E s) j <;> simp [zb] <;> decide
  · intro ha c hc q hq
    unfold okc
    rw [h2 _ (by omega), ← tb_make' hD1 hD hC hE hc hq]
    have := congrArg (fun z => tb z (8 * c + q)) (show _ = _ from ha)
    simp only [tb_and] at this
    unfold cvC
    rw [← this]
    cases tb (pca P) (8 * c + q) <;> cases tb (makeC (nI D) tp C E s) (8 * c + q) <;> simp [zb]
/-- the nearest, as the reference looks for it -/
theorem fill_I {f : Nat → Int32} {k E : Nat} {b : Int32} (hk : k < 4) : ∀ n, n ≤ 8 → ∀ j, j < 32 → tb (fillI f k E b n) j = (tb b j || (decide (j / 8 = k ∧ j % 8 < n) && decide (ncC f (j % 8) E = 1)))
  | 0, _, j, _ => by simp [fillI, itr]
  | n + 1, hn, j, hj => by
    have ih := fill_I (f := f) (E := E) (b := b) hk n (by omega) j hj
    have e1 : fillI f k E b (n + 1) = if ncC f n E = 1 then fillI f k E b n ||| on1 (8 * k + n) else fillI f k E b n := by
      rw [← plC_on1 hk (by omega)]; rfl
    rw [e1]
    by_cases hje : j = 8 * k + n
    · have h1 : j / 8 = k := by omega
      have h2 : j % 8 = n := by omega
      rw [h1, h2] at ih ⊢
      by_cases hc : ncC f n E = 1
      · rw [if_pos hc, tb_or, tb_on1 (by omega) hj]; simp [hje, hc]
      · rw [if_neg hc, ih]; simp [hc]
    · have h1 : decide (j / 8 = k ∧ j % 8 < n + 1) = decide (j / 8 = k ∧ j % 8 < n) := by apply decide_eq_decide.mpr; omega
      rw [h1, ← ih]
      by_cases hc : ncC f n E = 1
      · rw [if_pos hc, tb_or, tb_on1 (by omega) hj]; simp [hje]
      · rw [if_neg hc]
theorem fill_C {ca va : Int32} {E : Nat} (hE : E ≤ 8) : ∀ n, n ≤ 4 → ∀ j, j < 32 → tb (fillC ca va E n) j = (decide (j / 8 < n ∧ j % 8 < E) && decide (ncC (fun q => carC ca va (plC (nI (j / 8)) (nI q))) (j % 8) E = 1))
  | 0, _, j, _ => by simp [fillC, itr, tb_0]
  | n + 1, hn, j, hj => by
    have ih := fill_C (ca := ca) (va := va) hE n (by omega) j hj
    have e1 : fillC ca va E (n + 1) = fillI (fun q => carC ca va (plC (nI n) (nI q))) n E (fillC ca va E n) E := rfl
    rw [e1, fill_I (by omega) E hE j hj, ih]
    by_cases hjn : j / 8 = n
    · rw [hjn]; simp
    · rw [show decide (j / 8 = n ∧ j % 8 < E) = false by simp [hjn], show decide (j / 8 < n + 1 ∧ j % 8 < E) = decide (j / 8 < n ∧ j % 8 < E) by apply decide_eq_decide.mpr; omega]
      simp
theorem tb_fill {ca va : Int32} {C E k q : Nat} (hC : C ≤ 4) (hE : E ≤ 8) (hk : k < C) (hq : q < E) : tb (fillC ca va E C) (8 * k + q) = decide (ncC (fun q => carC ca va (plC (nI k) (nI q))) q E = 1) := by
  rw [fill_C hE C hC _ (by omega), show (8 * k + q) / 8 = k by omega, show (8 * k + q) % 8 = q by omega]
  simp [hk, hq]
theorem dnS_congr {f g : Nat → Int32} : ∀ n, (∀ i, i < n → f i = g i) → dnS f n = dnS g n
  | 0, _ => rfl
  | n + 1, h => by simp only [dnS]; rw [h n (by omega), dnS_congr n (fun i hi => h i (by omega))]
theorem upS_congr {f g : Nat → Int32} : ∀ n k, (∀ i, i < k + n → f i = g i) → upS f k n = upS g k n
  | 0, _, _ => rfl
  | n + 1, k, h => by simp only [upS]; rw [h k (by omega), upS_congr n (k + 1) (fun i hi => h i (by omega))]
theorem ncC_congr {f g : Nat → Int32} {q E : Nat} (hq : q < E) (h : ∀ i, i < E → f i = g i) : ncC f q E = ncC g q E := by
  unfold ncC
  rw [dnS_congr _ (fun i hi => h i (by omega)), upS_congr _ _ (fun i hi => h i (by omega))]
theorem cv_01 (P : Pat) (k : Nat) : cvC P k = -1 ∨ cvC P k = 0 ∨ cvC P k = 1 := by
  unfold cvC
  cases tb (pca P) k <;> cases tb (pva P) k <;> simp
theorem cv_zb {P : Pat} {k : Nat} (h : ¬ cvC P k = -1) : tb (pca P) k = true ∧ cvC P k = zb (tb (pva P) k) := by
  revert h
  unfold cvC
  cases tb (pca P) k <;> cases tb (pva P) k <;> simp [zb]
theorem cv_no {P : Pat} {k : Nat} (h : cvC P k = -1) : tb (pca P) k = false := by
  revert h
  unfold cvC
  cases tb (pca P) k <;> cases tb (pva P) k <;> simp <;> decide
theorem zb_1 {x : Int32} (h : x = 0 ∨ x = 1) : zb (decide (x = 1)) = x := by rcases h with h | h <;> subst h <;> decide
theorem dn_sub1 (n : Nat) : nI n - 1 = dn n := by
  cases n with
  | zero => rfl
  | succ n => exact nI_pred n
theorem modD {a D : Nat} (h1 : 1 ≤ D) (h2 : D ≤ 16) : a % D < 32 := Nat.lt_of_lt_of_le (Nat.mod_lt _ (by omega)) (by omega)
theorem and_zb (x : Int32) {c e : Nat} (hc : c < 4) (he : e < 8) : (if x &&& plC (nI c) (nI e) = 0 then (0 : Int32) else 1) = zb (tb x (8 * c + e)) := by
  rw [plC_on1 hc he]
  by_cases h : x &&& on1 (8 * c + e) = 0
  · rw [if_pos h, (and_on1 _ (by omega)).mp h]; rfl
  · rw [if_neg h]
    rw [and_on1 _ (by omega)] at h
    rw [show tb x (8 * c + e) = true by simpa using h]; rfl
section BITS
variable {C E i k q D : Nat} {P : Pat} {sd fl tp : Int32} {cf mf ff : Nat → Int32}
theorem bits_seed (h : simP C E P sd cf mf ff i) (hs : ¬ sd = -1) : bitsC (nI D) tp fl C E P = makeC (nI D) tp C E sd := by
  unfold bitsC
  rw [h.1] at hs ⊢
  rw [if_neg hs]
theorem near_f (h : simP C E P sd cf mf ff i) (hC : C ≤ 4) (hE : E ≤ 8) (hk : k < C) (hq : q < E) : ncC (fun q => carC (pca P) (pva P) (plC (nI k) (nI q))) q E = ncC (fun e => cf (32 * i + (8 * k + e))) q E :=
  ncC_congr hq (fun e he => by
    show carC (pca P) (pva P) (plC (nI k) (nI e)) = cf (32 * i + (8 * k + e))
    rw [plC_on1 (by omega) (by omega), carC_on1 P (by omega), h.2.1 _ (by omega)])
theorem bits_own (h : simP C E P sd cf mf ff i) (hs : sd = -1) (hC : C ≤ 4) (hE : E ≤ 8) (hk : k < C) (hq : q < E) (ho : ¬ cf (32 * i + (8 * k + q)) = -1) : cf (32 * i + (8 * k + q)) = zb (tb (bitsC (nI D) tp fl C E P) (8 * k + q)) := by
  have e1 := h.2.1 (8 * k + q) (by omega)
  have ho' := ho
  rw [e1] at ho'
  obtain ⟨h2, h3⟩ := cv_zb ho'
  unfold bitsC
  rw [h.1] at hs
  rw [if_pos hs]
  by_cases f1 : fl = 1
  · rw [if_pos f1, tb_or, tb_not _ (by omega), h2, e1, h3]; simp
  · rw [if_neg f1]
    by_cases f2 : fl = 2
    · rw [if_pos f2, tb_fill hC hE hk hq, near_f h hC hE hk hq]
      have e2 : ncC (fun e => cf (32 * i + (8 * k + e))) q E = cf (32 * i + (8 * k + q)) := by
        unfold ncC
        simp only [dnS]
        rw [if_neg ho, if_neg ho]
      rw [e2, zb_1]
      rw [e1]
      have := cv_01 P (8 * k + q)
      rcases this with h9 | h9
      · exact absurd h9 ho'
      · exact h9
    · rw [if_neg f2, e1, h3]
theorem bits_fl (h : simP C E P sd cf mf ff i) (hs : sd = -1) (hC : C ≤ 4) (hE : E ≤ 8) (hk : k < C) (hq : q < E) (hf : fl = 0 ∨ fl = 1 ∨ fl = 2) (hf2 : ¬ 2 ≤ fl) (ho : cf (32 * i + (8 * k + q)) = -1) : fl = zb (tb (bitsC (nI D) tp fl C E P) (8 * k + q)) := by
  rw [h.2.1 (8 * k + q) (by omega)] at ho
  have h2 := cv_no ho
  unfold bitsC
  rw [h.1] at hs
  rw [if_pos hs]
  rcases hf with rfl | rfl | rfl
  · rw [if_neg (by decide), if_neg (by decide)]
    cases hv : tb (pva P) (8 * k + q) with
    | false => rfl
    | true => rw [h.2.2.2.2.2.1 _ (by omega) hv] at h2; cases h2
  · rw [if_pos rfl, tb_or, tb_not _ (by omega), h2]; simp [zb]
  · exact absurd (by decide) hf2
theorem bits_nr (h : simP C E P sd cf mf ff i) (hs : sd = -1) (hC : C ≤ 4) (hE : E ≤ 8) (hk : k < C) (hq : q < E) (hf : fl = 0 ∨ fl = 1 ∨ fl = 2) (hf2 : 2 ≤ fl) {v : Int32} (hv : v = ncC (fun e => cf (32 * i + (8 * k + e))) q E) (hv1 : v = 0 ∨ v = 1) : v = zb (tb (bitsC (nI D) tp fl C E P) (8 * k + q)) := by
  unfold bitsC
  rw [h.1] at hs
  rw [if_pos hs]
  rcases hf with rfl | rfl | rfl
  · exact absurd hf2 (by decide)
  · exact absurd hf2 (by decide)
  · rw [if_neg (by decide), if_pos rfl, tb_fill hC hE hk hq, near_f h hC hE hk hq, ← hv, zb_1 hv1]
end BITS
theorem cf_01 {C E i j : Nat} {P : Pat} {sd : Int32} {cf mf ff : Nat → Int32} (h : simP C E P sd cf mf ff i) (hj : j < 32) (hn : ¬ cf (32 * i + j) = -1) : cf (32 * i + j) = 0 ∨ cf (32 * i + j) = 1 := by
  rw [h.2.1 j hj] at hn ⊢
  rcases cv_01 P j with h9 | h9
  · exact absurd h9 hn
  · exact h9
theorem nc_dn {f : Nat → Int32} {q E : Nat} {v : Int32} (h0 : f q = -1) (h : dnS f q = v) (hv : ¬ v = -1) : v = ncC f q E := ncC_dn (by simp only [dnS]; rw [if_pos h0]; exact h) hv
theorem nc_up {f : Nat → Int32} {q E : Nat} {v : Int32} (h0 : f q = -1) (h : dnS f q = -1) (h2 : upS f (q + 1) (E - (q + 1)) = v) (hv : ¬ v = -1) : v = ncC f q E := ncC_up (by simp only [dnS]; rw [if_pos h0]; exact h) h2 hv
theorem nc_no {f : Nat → Int32} {q E : Nat} (h0 : f q = -1) (h : dnS f q = -1) (h2 : upS f (q + 1) (E - (q + 1)) = -1) : 0 = ncC f q E := ncC_no (by simp only [dnS]; rw [if_pos h0]; exact h) h2
