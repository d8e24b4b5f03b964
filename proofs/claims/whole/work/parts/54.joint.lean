/-! A call of the class and the same call of the reference, one behind the other. -/
def lwJ (Z : gZ) (G : gh) (x mo u1 u2 u3 u4 u5 u6 u7 o C E : Nat) (k : Int32) (P : Int64 → Prop) : Prop := ∃ M D fk tp pt pd ov, clQ Z G x C E M D fk tp pt pd ∧ moQ Z G mo u1 u2 u3 u4 u5 u6 u7 k C E M D fk tp pt pd ∧ G o = some (.inl (Z.2 0, 1, .inr (.inl ov))) ∧ (k = 0 → P (ov 0))
theorem okP_uq {pt : Nat → Option Nat} {pd : Nat → Pat} {n : Int32} {j j' : Nat} (h : okP pt pd n j) (h' : okP pt pd n j') : j = j' := (nI_eq (by have := h.1; omega) (by have := h'.1; omega)).mp (h.2.1.symm.trans h'.2.1)
theorem nI_uq {n : Int32} {j j' : Nat} (a : j < 2 ^ 31) (b : j' < 2 ^ 31) (h : n = nI j) (h' : n = nI j') : j = j' := (nI_eq a b).mp (h.symm.trans h')
theorem sg_no {a b : Int32} {f t : Nat} (h1 : a = nI f) (h2 : b = nI t) (h3 : f ≤ t) (h4 : t < 2 ^ 31) (h : a < 0 ∨ b < a) : False := by
  subst h1; subst h2
  rcases h with h | h
  · exact nI_pos (by omega) h
  · have := (nI_ltI (by omega) (by omega)).mp h; omega
theorem j_seedOf {Z : gZ} {G G1 G2 : gh} {x o mo u1 u2 u3 u4 u5 u6 u7 C E M D : Nat} {fk tp th : Int32} {pt : Nat → Option Nat} {pd : Nat → Pat} {n : Int32} {k9 : Int32} {b9 : Int32} (hQ : moQ Z G mo u1 u2 u3 u4 u5 u6 u7 th C E M D fk tp pt pd) (hA : ∃ ov9, G1 o = some (.inl (Z.2 0, 1, .inr (.inl ov9))) ∧ kX mE G G1 ∧ ((k9 = 1 ∧ (∀ j, ¬ okP pt pd n j) ∧ clQ Z G1 x C E M D fk tp pt pd) ∨ (k9 = 0 ∧ ∃ r9 : Int32, ov9 0 = r9.toInt64 ∧ (∃ j, okP pt pd n j ∧ clQ Z G1 x C E M D fk tp pt pd ∧ r9 = psd (pd j))))) (hB : gKe (moI mo u1 u2 u3 u4 u5 u6 u7) G1 G2 ∧ (((∀ j, ¬ okP pt pd n j) ∧ moQ Z G2 mo u1 u2 u3 u4 u5 u6 u7 1 C E M D fk tp pt pd) ∨ (∃ j, okP pt pd n j ∧ moQ Z G2 mo u1 u2 u3 u4 u5 u6 u7 0 C E M D fk tp pt pd ∧ b9 = psd (pd j)))) : lwJ Z G2 x mo u1 u2 u3 u4 u5 u6 u7 o C E k9 (fun v => v = b9.toInt64) := by
  obtain ⟨hC, hE8, hD0, hD, hM⟩ := moQ_bd hQ
  obtain ⟨ov9, ho9, hk, hA⟩ := hA
  obtain ⟨hK, hB⟩ := hB
  have hQ1 := moQ_km hQ hk
  have hkc := moQ_kc hQ1 hK
  have ho2 := hkc _ _ ho9 (mE_o _ _ _)
  rcases hA with ⟨rfl, h1, h2⟩ | ⟨rfl, r9, hv, j, h1, h2, h3⟩ <;> rcases hB with ⟨g1, g2⟩ | ⟨j', g1, g2, g3⟩
  · exact ⟨_, _, _, _, _, _, ov9, clQ_kc h2 hkc, g2, ho2, fun z => absurd z (by decide)⟩
  · exact absurd g1 (h1 j')
  · exact absurd h1 (g1 j)
  · obtain rfl := okP_uq h1 g1
    exact ⟨_, _, _, _, _, _, ov9, clQ_kc h2 hkc, g2, ho2, fun _ => hv.trans (congrArg Int32.toInt64 (h3.trans g3.symm))⟩
theorem j_shifts {Z : gZ} {G G1 G2 : gh} {x o mo u1 u2 u3 u4 u5 u6 u7 C E M D : Nat} {fk tp th : Int32} {pt : Nat → Option Nat} {pd : Nat → Pat} {n : Int32} {k9 : Int32} {b9 : Int64} (hQ : moQ Z G mo u1 u2 u3 u4 u5 u6 u7 th C E M D fk tp pt pd) (hA : ∃ ov9, G1 o = some (.inl (Z.2 0, 1, .inr (.inl ov9))) ∧ kX mE G G1 ∧ ((k9 = 1 ∧ (∀ j, ¬ okP pt pd n j) ∧ clQ Z G1 x C E M D fk tp pt pd) ∨ (k9 = 0 ∧ ∃ r9 : Int64, ov9 0 = r9 ∧ (∃ j, okP pt pd n j ∧ clQ Z G1 x C E M D fk tp pt pd ∧ r9 = shC (bitsC (nI D) tp fk C E (pd j)) E C)))) (hB : gKe (moI mo u1 u2 u3 u4 u5 u6 u7) G1 G2 ∧ (((∀ j, ¬ okP pt pd n j) ∧ moQ Z G2 mo u1 u2 u3 u4 u5 u6 u7 1 C E M D fk tp pt pd) ∨ (∃ j, okP pt pd n j ∧ moQ Z G2 mo u1 u2 u3 u4 u5 u6 u7 0 C E M D fk tp pt pd ∧ b9 = shC (bitsC (nI D) tp fk C E (pd j)) E C))) : lwJ Z G2 x mo u1 u2 u3 u4 u5 u6 u7 o C E k9 (fun v => v = b9) := by
  obtain ⟨hC, hE8, hD0, hD, hM⟩ := moQ_bd hQ
  obtain ⟨ov9, ho9, hk, hA⟩ := hA
  obtain ⟨hK, hB⟩ := hB
  have hQ1 := moQ_km hQ hk
  have hkc := moQ_kc hQ1 hK
  have ho2 := hkc _ _ ho9 (mE_o _ _ _)
  rcases hA with ⟨rfl, h1, h2⟩ | ⟨rfl, r9, hv, j, h1, h2, h3⟩ <;> rcases hB with ⟨g1, g2⟩ | ⟨j', g1, g2, g3⟩
  · exact ⟨_, _, _, _, _, _, ov9, clQ_kc h2 hkc, g2, ho2, fun z => absurd z (by decide)⟩
  · exact absurd g1 (h1 j')
  · exact absurd h1 (g1 j)
  · obtain rfl := okP_uq h1 g1
    exact ⟨_, _, _, _, _, _, ov9, clQ_kc h2 hkc, g2, ho2, fun _ => hv.trans (h3.trans g3.symm)⟩
theorem j_seed {Z : gZ} {G G1 G2 : gh} {x o mo u1 u2 u3 u4 u5 u6 u7 C E M D : Nat} {fk tp th : Int32} {pt : Nat → Option Nat} {pd : Nat → Pat} {n : Int32} {k9 : Int32} {b9 : Int32} (hQ : moQ Z G mo u1 u2 u3 u4 u5 u6 u7 th C E M D fk tp pt pd) (hA : ∃ ov9, G1 o = some (.inl (Z.2 0, 1, .inr (.inl ov9))) ∧ kX mE G G1 ∧ ((k9 = 1 ∧ (∀ j, ¬ okP pt pd n j) ∧ clQ Z G1 x C E M D fk tp pt pd) ∨ (k9 = 0 ∧ ∃ r9 : Int32, ov9 0 = r9.toInt64 ∧ (∃ j, okP pt pd n j ∧ clQ Z G1 x C E M D fk tp pt (va_up pd j (qsd (pd j) (lsC (nI D) tp C E D (pca (pd j)) (pva (pd j))))) ∧ r9 = if lsC (nI D) tp C E D (pca (pd j)) (pva (pd j)) = -1 then 1 else 0)))) (hB : gKe (moI mo u1 u2 u3 u4 u5 u6 u7) G1 G2 ∧ (((∀ j, ¬ okP pt pd n j) ∧ moQ Z G2 mo u1 u2 u3 u4 u5 u6 u7 1 C E M D fk tp pt pd) ∨ (∃ j, okP pt pd n j ∧ moQ Z G2 mo u1 u2 u3 u4 u5 u6 u7 0 C E M D fk tp pt (va_up pd j (qsd (pd j) (lsC (nI D) tp C E D (pca (pd j)) (pva (pd j))))) ∧ b9 = if lsC (nI D) tp C E D (pca (pd j)) (pva (pd j)) = -1 then 1 else 0))) : lwJ Z G2 x mo u1 u2 u3 u4 u5 u6 u7 o C E k9 (fun v => v = b9.toInt64) := by
  obtain ⟨hC, hE8, hD0, hD, hM⟩ := moQ_bd hQ
  obtain ⟨ov9, ho9, hk, hA⟩ := hA
  obtain ⟨hK, hB⟩ := hB
  have hQ1 := moQ_km hQ hk
  have hkc := moQ_kc hQ1 hK
  have ho2 := hkc _ _ ho9 (mE_o _ _ _)
  rcases hA with ⟨rfl, h1, h2⟩ | ⟨rfl, r9, hv, j, h1, h2, h3⟩ <;> rcases hB with ⟨g1, g2⟩ | ⟨j', g1, g2, g3⟩
  · exact ⟨_, _, _, _, _, _, ov9, clQ_kc h2 hkc, g2, ho2, fun z => absurd z (by decide)⟩
  · exact absurd g1 (h1 j')
  · exact absurd h1 (g1 j)
  · obtain rfl := okP_uq h1 g1
    exact ⟨_, _, _, _, _, _, ov9, clQ_kc h2 hkc, g2, ho2, fun _ => hv.trans (congrArg Int32.toInt64 (h3.trans g3.symm))⟩
theorem j_finders {Z : gZ} {G G1 G2 : gh} {x o mo u1 u2 u3 u4 u5 u6 u7 C E M D : Nat} {fk tp th : Int32} {pt : Nat → Option Nat} {pd : Nat → Pat} {f0 : Int32} {k9 : Int32} {b9 : Int32} (hQ : moQ Z G mo u1 u2 u3 u4 u5 u6 u7 th C E M D fk tp pt pd) (hA : ∃ ov9, G1 o = some (.inl (Z.2 0, 1, .inr (.inl ov9))) ∧ kX mE G G1 ∧ ((k9 = 1 ∧ (¬ ∃ k, k < 31 ∧ f0 = nI k) ∧ clQ Z G1 x C E M D fk tp pt pd) ∨ (k9 = 0 ∧ ∃ r9 : Int32, ov9 0 = r9.toInt64 ∧ (∃ f, f < 31 ∧ f0 = nI f ∧ clQ Z G1 x C E M D fk tp pt pd ∧ r9 = nI (cntF pt pd ((1 : Int32) <<< (nI f &&& 31)) 24))))) (hB : gKe (moI mo u1 u2 u3 u4 u5 u6 u7) G1 G2 ∧ (((¬ ∃ k, k < 31 ∧ f0 = nI k) ∧ moQ Z G2 mo u1 u2 u3 u4 u5 u6 u7 1 C E M D fk tp pt pd) ∨ (∃ f, f < 31 ∧ f0 = nI f ∧ moQ Z G2 mo u1 u2 u3 u4 u5 u6 u7 0 C E M D fk tp pt pd ∧ b9 = nI (cntF pt pd ((1 : Int32) <<< (nI f &&& 31)) 24)))) : lwJ Z G2 x mo u1 u2 u3 u4 u5 u6 u7 o C E k9 (fun v => v = b9.toInt64) := by
  obtain ⟨hC, hE8, hD0, hD, hM⟩ := moQ_bd hQ
  obtain ⟨ov9, ho9, hk, hA⟩ := hA
  obtain ⟨hK, hB⟩ := hB
  have hQ1 := moQ_km hQ hk
  have hkc := moQ_kc hQ1 hK
  have ho2 := hkc _ _ ho9 (mE_o _ _ _)
  rcases hA with ⟨rfl, h1, h2⟩ | ⟨rfl, r9, hv, f, a1, a2, h2, h3⟩ <;> rcases hB with ⟨g1, g2⟩ | ⟨f', b1, b2, g2, g3⟩
  · exact ⟨_, _, _, _, _, _, ov9, clQ_kc h2 hkc, g2, ho2, fun z => absurd z (by decide)⟩
  · exact absurd ⟨f', b1, b2⟩ h1
  · exact absurd ⟨f, a1, a2⟩ g1
  · obtain rfl := nI_uq (by omega) (by omega) a2 b2
    exact ⟨_, _, _, _, _, _, ov9, clQ_kc h2 hkc, g2, ho2, fun _ => hv.trans (congrArg Int32.toInt64 (h3.trans g3.symm))⟩
theorem j_count {Z : gZ} {G G1 G2 : gh} {x o mo u1 u2 u3 u4 u5 u6 u7 C E M D : Nat} {fk tp th : Int32} {pt : Nat → Option Nat} {pd : Nat → Pat} {w0 : Int32} {k9 : Int32} {b9 : Int32} (hQ : moQ Z G mo u1 u2 u3 u4 u5 u6 u7 th C E M D fk tp pt pd) (hA : ∃ ov9, G1 o = some (.inl (Z.2 0, 1, .inr (.inl ov9))) ∧ kX mE G G1 ∧ ((k9 = 1 ∧ (¬ ∃ j, j < 5 ∧ w0 = nI j) ∧ clQ Z G1 x C E M D fk tp pt pd) ∨ (k9 = 0 ∧ ∃ r9 : Int32, ov9 0 = r9.toInt64 ∧ (∃ j, j < 5 ∧ w0 = nI j ∧ clQ Z G1 x C E M D fk tp pt pd ∧ r9 = cnC (nI D) pt pd j)))) (hB : gKe (moI mo u1 u2 u3 u4 u5 u6 u7) G1 G2 ∧ (((¬ ∃ j, j < 5 ∧ w0 = nI j) ∧ moQ Z G2 mo u1 u2 u3 u4 u5 u6 u7 1 C E M D fk tp pt pd) ∨ (∃ j, j < 5 ∧ w0 = nI j ∧ moQ Z G2 mo u1 u2 u3 u4 u5 u6 u7 0 C E M D fk tp pt pd ∧ b9 = cnC (nI D) pt pd j))) : lwJ Z G2 x mo u1 u2 u3 u4 u5 u6 u7 o C E k9 (fun v => v = b9.toInt64) := by
  obtain ⟨hC, hE8, hD0, hD, hM⟩ := moQ_bd hQ
  obtain ⟨ov9, ho9, hk, hA⟩ := hA
  obtain ⟨hK, hB⟩ := hB
  have hQ1 := moQ_km hQ hk
  have hkc := moQ_kc hQ1 hK
  have ho2 := hkc _ _ ho9 (mE_o _ _ _)
  rcases hA with ⟨rfl, h1, h2⟩ | ⟨rfl, r9, hv, f, a1, a2, h2, h3⟩ <;> rcases hB with ⟨g1, g2⟩ | ⟨f', b1, b2, g2, g3⟩
  · exact ⟨_, _, _, _, _, _, ov9, clQ_kc h2 hkc, g2, ho2, fun z => absurd z (by decide)⟩
  · exact absurd ⟨f', b1, b2⟩ h1
  · exact absurd ⟨f, a1, a2⟩ g1
  · obtain rfl := nI_uq (by omega) (by omega) a2 b2
    exact ⟨_, _, _, _, _, _, ov9, clQ_kc h2 hkc, g2, ho2, fun _ => hv.trans (congrArg Int32.toInt64 (h3.trans g3.symm))⟩
theorem j_bit {Z : gZ} {G G1 G2 : gh} {x o mo u1 u2 u3 u4 u5 u6 u7 C E M D : Nat} {fk tp th : Int32} {pt : Nat → Option Nat} {pd : Nat → Pat} {n c0 e0 : Int32} {k9 : Int32} {b9 : Int32} (hQ : moQ Z G mo u1 u2 u3 u4 u5 u6 u7 th C E M D fk tp pt pd) (hA : ∃ ov9, G1 o = some (.inl (Z.2 0, 1, .inr (.inl ov9))) ∧ kX mE G G1 ∧ ((k9 = 1 ∧ ((∀ j, ¬ okP pt pd n j) ∨ ¬ ∃ k j, k < C ∧ j < E ∧ c0 = nI k ∧ e0 = nI j) ∧ clQ Z G1 x C E M D fk tp pt pd) ∨ (k9 = 0 ∧ ∃ r9 : Int32, ov9 0 = r9.toInt64 ∧ (∃ j k q, okP pt pd n j ∧ k < C ∧ q < E ∧ c0 = nI k ∧ e0 = nI q ∧ clQ Z G1 x C E M D fk tp pt pd ∧ r9 = if (bitsC (nI D) tp fk C E (pd j)) &&& plC (nI k) (nI q) = 0 then 0 else 1)))) (hB : gKe (moI mo u1 u2 u3 u4 u5 u6 u7) G1 G2 ∧ ((((∀ j, ¬ okP pt pd n j) ∨ (¬ ∃ k j, k < C ∧ j < E ∧ c0 = nI k ∧ e0 = nI j)) ∧ moQ Z G2 mo u1 u2 u3 u4 u5 u6 u7 1 C E M D fk tp pt pd) ∨ (∃ j k q, okP pt pd n j ∧ k < C ∧ q < E ∧ c0 = nI k ∧ e0 = nI q ∧ moQ Z G2 mo u1 u2 u3 u4 u5 u6 u7 0 C E M D fk tp pt pd ∧ b9 = if (bitsC (nI D) tp fk C E (pd j)) &&& plC (nI k) (nI q) = 0 then 0 else 1))) : lwJ Z G2 x mo u1 u2 u3 u4 u5 u6 u7 o C E k9 (fun v => v = b9.toInt64) := by
  obtain ⟨hC, hE8, hD0, hD, hM⟩ := moQ_bd hQ
  obtain ⟨ov9, ho9, hk, hA⟩ := hA
  obtain ⟨hK, hB⟩ := hB
  have hQ1 := moQ_km hQ hk
  have hkc := moQ_kc hQ1 hK
  have ho2 := hkc _ _ ho9 (mE_o _ _ _)
  rcases hA with ⟨rfl, h1, h2⟩ | ⟨rfl, r9, hv, j, k, q, h1, a1, a2, a3, a4, h2, h3⟩ <;> rcases hB with ⟨g1, g2⟩ | ⟨j', k', q', g1, b1, b2, b3, b4, g2, g3⟩
  · exact ⟨_, _, _, _, _, _, ov9, clQ_kc h2 hkc, g2, ho2, fun z => absurd z (by decide)⟩
  · exact (h1.elim (fun z => z j' g1) (fun z => z ⟨k', q', b1, b2, b3, b4⟩)).elim
  · exact (g1.elim (fun z => z j h1) (fun z => z ⟨k, q, a1, a2, a3, a4⟩)).elim
  · obtain rfl := okP_uq h1 g1
    obtain rfl := nI_uq (by omega) (by omega) a3 b3
    obtain rfl := nI_uq (by omega) (by omega) a4 b4
    exact ⟨_, _, _, _, _, _, ov9, clQ_kc h2 hkc, g2, ho2, fun _ => hv.trans (congrArg Int32.toInt64 (h3.trans g3.symm))⟩
theorem j_mask {Z : gZ} {G G1 G2 : gh} {x o mo u1 u2 u3 u4 u5 u6 u7 C E M D : Nat} {fk tp th : Int32} {pt : Nat → Option Nat} {pd : Nat → Pat} {n c0 e0 : Int32} {k9 : Int32} {b9 : Int32} (hQ : moQ Z G mo u1 u2 u3 u4 u5 u6 u7 th C E M D fk tp pt pd) (hA : ∃ ov9, G1 o = some (.inl (Z.2 0, 1, .inr (.inl ov9))) ∧ kX mE G G1 ∧ ((k9 = 1 ∧ ((∀ j, ¬ okP pt pd n j) ∨ ¬ ∃ k j, k < C ∧ j < E ∧ c0 = nI k ∧ e0 = nI j) ∧ clQ Z G1 x C E M D fk tp pt pd) ∨ (k9 = 0 ∧ ∃ r9 : Int32, ov9 0 = zl r9 ∧ (∃ j k q, okP pt pd n j ∧ k < C ∧ q < E ∧ c0 = nI k ∧ e0 = nI q ∧ clQ Z G1 x C E M D fk tp pt (va_up pd j (qmk (pd j) (pmk (pd j) ||| plC (nI k) (nI q)))) ∧ r9 = if pmk (pd j) &&& plC (nI k) (nI q) = 0 then 1 else 0)))) (hB : gKe (moI mo u1 u2 u3 u4 u5 u6 u7) G1 G2 ∧ ((((∀ j, ¬ okP pt pd n j) ∨ (¬ ∃ k j, k < C ∧ j < E ∧ c0 = nI k ∧ e0 = nI j)) ∧ moQ Z G2 mo u1 u2 u3 u4 u5 u6 u7 1 C E M D fk tp pt pd) ∨ (∃ j k q, okP pt pd n j ∧ k < C ∧ q < E ∧ c0 = nI k ∧ e0 = nI q ∧ moQ Z G2 mo u1 u2 u3 u4 u5 u6 u7 0 C E M D fk tp pt (va_up pd j (qmk (pd j) (pmk (pd j) ||| plC (nI k) (nI q)))) ∧ b9 = if pmk (pd j) &&& plC (nI k) (nI q) = 0 then 1 else 0))) : lwJ Z G2 x mo u1 u2 u3 u4 u5 u6 u7 o C E k9 (fun v => v = zl b9) := by
  obtain ⟨hC, hE8, hD0, hD, hM⟩ := moQ_bd hQ
  obtain ⟨ov9, ho9, hk, hA⟩ := hA
  obtain ⟨hK, hB⟩ := hB
  have hQ1 := moQ_km hQ hk
  have hkc := moQ_kc hQ1 hK
  have ho2 := hkc _ _ ho9 (mE_o _ _ _)
  rcases hA with ⟨rfl, h1, h2⟩ | ⟨rfl, r9, hv, j, k, q, h1, a1, a2, a3, a4, h2, h3⟩ <;> rcases hB with ⟨g1, g2⟩ | ⟨j', k', q', g1, b1, b2, b3, b4, g2, g3⟩
  · exact ⟨_, _, _, _, _, _, ov9, clQ_kc h2 hkc, g2, ho2, fun z => absurd z (by decide)⟩
  · exact (h1.elim (fun z => z j' g1) (fun z => z ⟨k', q', b1, b2, b3, b4⟩)).elim
  · exact (g1.elim (fun z => z j h1) (fun z => z ⟨k, q, a1, a2, a3, a4⟩)).elim
  · obtain rfl := okP_uq h1 g1
    obtain rfl := nI_uq (by omega) (by omega) a3 b3
    obtain rfl := nI_uq (by omega) (by omega) a4 b4
    exact ⟨_, _, _, _, _, _, ov9, clQ_kc h2 hkc, g2, ho2, fun _ => hv.trans (congrArg zl (h3.trans g3.symm))⟩
theorem j_found {Z : gZ} {G G1 G2 : gh} {x o mo u1 u2 u3 u4 u5 u6 u7 C E M D : Nat} {fk tp th : Int32} {pt : Nat → Option Nat} {pd : Nat → Pat} {n f0 : Int32} {k9 : Int32} {b9 : Int32} (hQ : moQ Z G mo u1 u2 u3 u4 u5 u6 u7 th C E M D fk tp pt pd) (hA : ∃ ov9, G1 o = some (.inl (Z.2 0, 1, .inr (.inl ov9))) ∧ kX mE G G1 ∧ ((k9 = 1 ∧ ((∀ j, ¬ okP pt pd n j) ∨ ¬ ∃ k, k < 31 ∧ f0 = nI k) ∧ clQ Z G1 x C E M D fk tp pt pd) ∨ (k9 = 0 ∧ ∃ r9 : Int32, ov9 0 = zl r9 ∧ (∃ j f, okP pt pd n j ∧ f < 31 ∧ f0 = nI f ∧ clQ Z G1 x C E M D fk tp pt (va_up pd j (qfa (pd j) (pfa (pd j) ||| ((1 : Int32) <<< (nI f &&& 31))))) ∧ r9 = if pfa (pd j) &&& ((1 : Int32) <<< (nI f &&& 31)) = 0 then 1 else 0)))) (hB : gKe (moI mo u1 u2 u3 u4 u5 u6 u7) G1 G2 ∧ ((((∀ j, ¬ okP pt pd n j) ∨ ¬ ∃ k, k < 31 ∧ f0 = nI k) ∧ moQ Z G2 mo u1 u2 u3 u4 u5 u6 u7 1 C E M D fk tp pt pd) ∨ (∃ j f, okP pt pd n j ∧ f < 31 ∧ f0 = nI f ∧ moQ Z G2 mo u1 u2 u3 u4 u5 u6 u7 0 C E M D fk tp pt (va_up pd j (qfa (pd j) (pfa (pd j) ||| ((1 : Int32) <<< (nI f &&& 31))))) ∧ b9 = if pfa (pd j) &&& ((1 : Int32) <<< (nI f &&& 31)) = 0 then 1 else 0))) : lwJ Z G2 x mo u1 u2 u3 u4 u5 u6 u7 o C E k9 (fun v => v = zl b9) := by
  obtain ⟨hC, hE8, hD0, hD, hM⟩ := moQ_bd hQ
  obtain ⟨ov9, ho9, hk, hA⟩ := hA
  obtain ⟨hK, hB⟩ := hB
  have hQ1 := moQ_km hQ hk
  have hkc := moQ_kc hQ1 hK
  have ho2 := hkc _ _ ho9 (mE_o _ _ _)
  rcases hA with ⟨rfl, h1, h2⟩ | ⟨rfl, r9, hv, j, f, h1, a1, a2, h2, h3⟩ <;> rcases hB with ⟨g1, g2⟩ | ⟨j', f', g1, b1, b2, g2, g3⟩
  · exact ⟨_, _, _, _, _, _, ov9, clQ_kc h2 hkc, g2, ho2, fun z => absurd z (by decide)⟩
  · exact (h1.elim (fun z => z j' g1) (fun z => z ⟨f', b1, b2⟩)).elim
  · exact (g1.elim (fun z => z j h1) (fun z => z ⟨f, a1, a2⟩)).elim
  · obtain rfl := okP_uq h1 g1
    obtain rfl := nI_uq (by omega) (by omega) a2 b2
    exact ⟨_, _, _, _, _, _, ov9, clQ_kc h2 hkc, g2, ho2, fun _ => hv.trans (congrArg zl (h3.trans g3.symm))⟩
theorem j_signature {Z : gZ} {G G1 G2 : gh} {x o mo u1 u2 u3 u4 u5 u6 u7 C E M D : Nat} {fk tp th : Int32} {pt : Nat → Option Nat} {pd : Nat → Pat} {a0 b0 : Int32} {k9 : Int32} {b9 : Int64} (hQ : moQ Z G mo u1 u2 u3 u4 u5 u6 u7 th C E M D fk tp pt pd) (hA : ∃ ov9, G1 o = some (.inl (Z.2 0, 1, .inr (.inl ov9))) ∧ kX mE G G1 ∧ ((k9 = 1 ∧ (a0 < 0 ∨ b0 < a0) ∧ clQ Z G1 x C E M D fk tp pt pd) ∨ (k9 = 0 ∧ ∃ r9 : Int64, ov9 0 = r9 ∧ (∃ f t, a0 = nI f ∧ b0 = nI t ∧ f ≤ t ∧ t < 2 ^ 31 ∧ clQ Z G1 x C E M D fk tp pt pd ∧ r9 = (sgC (nI D) tp fk C E pt pd f (min t 23 + 1 - f)).toInt64)))) (hB : gKe (moI mo u1 u2 u3 u4 u5 u6 u7) G1 G2 ∧ (((a0 < 0 ∨ b0 < a0) ∧ moQ Z G2 mo u1 u2 u3 u4 u5 u6 u7 1 C E M D fk tp pt pd) ∨ (∃ f t, a0 = nI f ∧ b0 = nI t ∧ f ≤ t ∧ t < 2 ^ 31 ∧ moQ Z G2 mo u1 u2 u3 u4 u5 u6 u7 0 C E M D fk tp pt pd ∧ b9 = (sgC (nI D) tp fk C E pt pd f (min t 23 + 1 - f)).toInt64))) : lwJ Z G2 x mo u1 u2 u3 u4 u5 u6 u7 o C E k9 (fun v => v = b9) := by
  obtain ⟨hC, hE8, hD0, hD, hM⟩ := moQ_bd hQ
  obtain ⟨ov9, ho9, hk, hA⟩ := hA
  obtain ⟨hK, hB⟩ := hB
  have hQ1 := moQ_km hQ hk
  have hkc := moQ_kc hQ1 hK
  have ho2 := hkc _ _ ho9 (mE_o _ _ _)
  rcases hA with ⟨rfl, h1, h2⟩ | ⟨rfl, r9, hv, f, t, a1, a2, a3, a4, h2, h3⟩ <;> rcases hB with ⟨g1, g2⟩ | ⟨f', t', b1, b2, b3, b4, g2, g3⟩
  · exact ⟨_, _, _, _, _, _, ov9, clQ_kc h2 hkc, g2, ho2, fun z => absurd z (by decide)⟩
  · exact (sg_no b1 b2 b3 b4 h1).elim
  · exact (sg_no a1 a2 a3 a4 g1).elim
  · obtain rfl := nI_uq (by omega) (by omega) a1 b1
    obtain rfl := nI_uq (by omega) (by omega) a2 b2
    exact ⟨_, _, _, _, _, _, ov9, clQ_kc h2 hkc, g2, ho2, fun _ => hv.trans (h3.trans g3.symm)⟩
theorem j_alias {Z : gZ} {G G1 G2 : gh} {x o mo u1 u2 u3 u4 u5 u6 u7 C E M D : Nat} {fk tp th : Int32} {pt : Nat → Option Nat} {pd : Nat → Pat} {n0 q0 : Int32} {k9 : Int32} {b9 : Int64} (hQ : moQ Z G mo u1 u2 u3 u4 u5 u6 u7 th C E M D fk tp pt pd) (hA : ∃ ov9, G1 o = some (.inl (Z.2 0, 1, .inr (.inl ov9))) ∧ kX mE G G1 ∧ ((k9 = 1 ∧ (¬ ((∃ N, 1 ≤ N ∧ N ≤ 60 ∧ n0 = nI N) ∧ (q0 = 0 ∨ q0 = 1))) ∧ clQ Z G1 x C E M D fk tp pt pd) ∨ (k9 = 0 ∧ ∃ r9 : Int64, ov9 0 = r9 ∧ (∃ N, 1 ≤ N ∧ N ≤ 60 ∧ n0 = nI N ∧ (q0 = 0 ∨ q0 = 1) ∧ clQ Z G1 x C E M D fk tp pt pd ∧ r9 = (if q0 = 0 then lN (2 ^ (N - D) - 1) else lN (2 ^ N - 1)) / gcdC (lN (2 ^ N - 1)) (lN (2 ^ (N - D) - 1)))))) (hB : gKe (moI mo u1 u2 u3 u4 u5 u6 u7) G1 G2 ∧ (((¬ ((∃ N, 1 ≤ N ∧ N ≤ 60 ∧ n0 = nI N) ∧ (q0 = 0 ∨ q0 = 1))) ∧ moQ Z G2 mo u1 u2 u3 u4 u5 u6 u7 1 C E M D fk tp pt pd) ∨ (∃ N, 1 ≤ N ∧ N ≤ 60 ∧ n0 = nI N ∧ (q0 = 0 ∨ q0 = 1) ∧ moQ Z G2 mo u1 u2 u3 u4 u5 u6 u7 0 C E M D fk tp pt pd ∧ b9 = (if q0 = 0 then lN (2 ^ (N - D) - 1) else lN (2 ^ N - 1)) / gcdC (lN (2 ^ N - 1)) (lN (2 ^ (N - D) - 1))))) : lwJ Z G2 x mo u1 u2 u3 u4 u5 u6 u7 o C E k9 (fun v => v = b9) := by
  obtain ⟨hC, hE8, hD0, hD, hM⟩ := moQ_bd hQ
  obtain ⟨ov9, ho9, hk, hA⟩ := hA
  obtain ⟨hK, hB⟩ := hB
  have hQ1 := moQ_km hQ hk
  have hkc := moQ_kc hQ1 hK
  have ho2 := hkc _ _ ho9 (mE_o _ _ _)
  rcases hA with ⟨rfl, h1, h2⟩ | ⟨rfl, r9, hv, N, a1, a2, a3, a4, h2, h3⟩ <;> rcases hB with ⟨g1, g2⟩ | ⟨N', b1, b2, b3, b4, g2, g3⟩
  · exact ⟨_, _, _, _, _, _, ov9, clQ_kc h2 hkc, g2, ho2, fun z => absurd z (by decide)⟩
  · exact absurd ⟨⟨N', b1, b2, b3⟩, b4⟩ h1
  · exact absurd ⟨⟨N, a1, a2, a3⟩, a4⟩ g1
  · obtain rfl := nI_uq (by omega) (by omega) a3 b3
    exact ⟨_, _, _, _, _, _, ov9, clQ_kc h2 hkc, g2, ho2, fun _ => hv.trans (h3.trans g3.symm)⟩
theorem j_fill {Z : gZ} {G G1 G2 : gh} {x o mo u1 u2 u3 u4 u5 u6 u7 C E M D : Nat} {fk tp th : Int32} {pt : Nat → Option Nat} {pd : Nat → Pat} {v : Int32} {k9 : Int32} {b9 : Int32} (hQ : moQ Z G mo u1 u2 u3 u4 u5 u6 u7 th C E M D fk tp pt pd) (hA : ∃ ov9, G1 o = some (.inl (Z.2 0, 1, .inr (.inl ov9))) ∧ kX mE G G1 ∧ ((k9 = 1 ∧ (¬ ∃ k, k < 3 ∧ v = nI k) ∧ clQ Z G1 x C E M D fk tp pt pd) ∨ (k9 = 0 ∧ ∃ r9 : Int32, ov9 0 = zl r9 ∧ ((∃ k, k < 3 ∧ v = nI k) ∧ clQ Z G1 x C E M D v tp pt pd ∧ r9 = if v = fk then 0 else 1)))) (hB : gKe (moI mo u1 u2 u3 u4 u5 u6 u7) G1 G2 ∧ (((¬ ∃ k, k < 3 ∧ v = nI k) ∧ moQ Z G2 mo u1 u2 u3 u4 u5 u6 u7 1 C E M D fk tp pt pd) ∨ ((∃ k, k < 3 ∧ v = nI k) ∧ moQ Z G2 mo u1 u2 u3 u4 u5 u6 u7 0 C E M D v tp pt pd ∧ b9 = if v = fk then 0 else 1))) : lwJ Z G2 x mo u1 u2 u3 u4 u5 u6 u7 o C E k9 (fun v => v = zl b9) := by
  obtain ⟨hC, hE8, hD0, hD, hM⟩ := moQ_bd hQ
  obtain ⟨ov9, ho9, hk, hA⟩ := hA
  obtain ⟨hK, hB⟩ := hB
  have hQ1 := moQ_km hQ hk
  have hkc := moQ_kc hQ1 hK
  have ho2 := hkc _ _ ho9 (mE_o _ _ _)
  rcases hA with ⟨rfl, h1, h2⟩ | ⟨rfl, r9, hv, h1, h2, h3⟩ <;> rcases hB with ⟨g1, g2⟩ | ⟨g1, g2, g3⟩
  · exact ⟨_, _, _, _, _, _, ov9, clQ_kc h2 hkc, g2, ho2, fun z => absurd z (by decide)⟩
  · exact absurd g1 h1
  · exact absurd h1 g1
  · exact ⟨_, _, _, _, _, _, ov9, clQ_kc h2 hkc, g2, ho2, fun _ => hv.trans (congrArg zl (h3.trans g3.symm))⟩
theorem j_pattern {Z : gZ} {G G1 G2 : gh} {x o mo u1 u2 u3 u4 u5 u6 u7 C E M D : Nat} {fk tp th : Int32} {pt : Nat → Option Nat} {pd : Nat → Pat} {k9 : Int32} {b9 : Int32} (hQ : moQ Z G mo u1 u2 u3 u4 u5 u6 u7 th C E M D fk tp pt pd) (hA : ∃ ov9, G1 o = some (.inl (Z.2 0, 1, .inr (.inl ov9))) ∧ kX mE G G1 ∧ ((k9 = 1 ∧ (¬ M < 24) ∧ clQ Z G1 x C E M D fk tp pt pd) ∨ (k9 = 0 ∧ ∃ r9 : Int32, ov9 0 = r9.toInt64 ∧ (M < 24 ∧ r9 = nI M ∧ ∃ q, clQ Z G1 x C E (M + 1) D fk tp (va_up pt M (some q)) (va_up pd M pat0))))) (hB : gKe (moI mo u1 u2 u3 u4 u5 u6 u7) G1 G2 ∧ ((M = 24 ∧ moQ Z G2 mo u1 u2 u3 u4 u5 u6 u7 1 C E M D fk tp pt pd) ∨ (M < 24 ∧ b9 = nI M ∧ ∀ q, moQ Z G2 mo u1 u2 u3 u4 u5 u6 u7 0 C E (M + 1) D fk tp (va_up pt M (some q)) (va_up pd M pat0)))) : lwJ Z G2 x mo u1 u2 u3 u4 u5 u6 u7 o C E k9 (fun v => v = b9.toInt64) := by
  obtain ⟨hC, hE8, hD0, hD, hM⟩ := moQ_bd hQ
  obtain ⟨ov9, ho9, hk, hA⟩ := hA
  obtain ⟨hK, hB⟩ := hB
  have hQ1 := moQ_km hQ hk
  have hkc := moQ_kc hQ1 hK
  have ho2 := hkc _ _ ho9 (mE_o _ _ _)
  rcases hA with ⟨rfl, h1, h2⟩ | ⟨rfl, r9, hv, h1, h3, q, h2⟩ <;> rcases hB with ⟨g1, g2⟩ | ⟨g1, g3, g2⟩
  · exact ⟨_, _, _, _, _, _, ov9, clQ_kc h2 hkc, g2, ho2, fun z => absurd z (by decide)⟩
  · exact absurd g1 h1
  · omega
  · exact ⟨_, _, _, _, _, _, ov9, clQ_kc h2 hkc, g2 q, ho2, fun _ => hv.trans (congrArg Int32.toInt64 (h3.trans g3.symm))⟩
theorem j_care {Z : gZ} {G G1 G2 : gh} {x o mo u1 u2 u3 u4 u5 u6 u7 C E M D : Nat} {fk tp th : Int32} {pt : Nat → Option Nat} {pd : Nat → Pat} {n c0 e0 v : Int32} {k9 : Int32} {b9 : Int32} (hQ : moQ Z G mo u1 u2 u3 u4 u5 u6 u7 th C E M D fk tp pt pd) (hA : ∃ ov9, G1 o = some (.inl (Z.2 0, 1, .inr (.inl ov9))) ∧ kX mE G G1 ∧ ((k9 = 1 ∧ ((∀ j, ¬ okP pt pd n j) ∨ ¬ ∃ k j, k < C ∧ j < E ∧ c0 = nI k ∧ e0 = nI j) ∧ clQ Z G1 x C E M D fk tp pt pd) ∨ (k9 = 2 ∧ ((∃ j, okP pt pd n j) ∧ (∃ k j, k < C ∧ j < E ∧ c0 = nI k ∧ e0 = nI j) ∧ ¬ (v = -1 ∨ v = 0 ∨ v = 1)) ∧ clQ Z G1 x C E M D fk tp pt pd) ∨ (k9 = 0 ∧ ∃ r9 : Int32, ov9 0 = zl r9 ∧ (∃ j k q, okP pt pd n j ∧ k < C ∧ q < E ∧ c0 = nI k ∧ e0 = nI q ∧ (v = -1 ∨ v = 0 ∨ v = 1) ∧ ((carC (pca (pd j)) (pva (pd j)) (plC (nI k) (nI q)) = v ∧ r9 = 0 ∧ clQ Z G1 x C E M D fk tp pt pd) ∨ (¬ carC (pca (pd j)) (pva (pd j)) (plC (nI k) (nI q)) = v ∧ r9 = 1 ∧ clQ Z G1 x C E M D fk tp pt (va_up pd j (qcare (pd j) (plC (nI k) (nI q)) v)))))))) (hB : gKe (moI mo u1 u2 u3 u4 u5 u6 u7) G1 G2 ∧ ((((∀ j, ¬ okP pt pd n j) ∨ (¬ ∃ k j, k < C ∧ j < E ∧ c0 = nI k ∧ e0 = nI j)) ∧ moQ Z G2 mo u1 u2 u3 u4 u5 u6 u7 1 C E M D fk tp pt pd) ∨ ((∃ j, okP pt pd n j) ∧ (∃ k j, k < C ∧ j < E ∧ c0 = nI k ∧ e0 = nI j) ∧ ¬ (v = -1 ∨ v = 0 ∨ v = 1) ∧ moQ Z G2 mo u1 u2 u3 u4 u5 u6 u7 2 C E M D fk tp pt pd) ∨ (∃ j k q, okP pt pd n j ∧ k < C ∧ q < E ∧ c0 = nI k ∧ e0 = nI q ∧ (v = -1 ∨ v = 0 ∨ v = 1) ∧ ((carC (pca (pd j)) (pva (pd j)) (plC (nI k) (nI q)) = v ∧ b9 = 0 ∧ moQ Z G2 mo u1 u2 u3 u4 u5 u6 u7 0 C E M D fk tp pt pd) ∨ (¬ carC (pca (pd j)) (pva (pd j)) (plC (nI k) (nI q)) = v ∧ b9 = 1 ∧ moQ Z G2 mo u1 u2 u3 u4 u5 u6 u7 0 C E M D fk tp pt (va_up pd j (qcare (pd j) (plC (nI k) (nI q)) v))))))) : lwJ Z G2 x mo u1 u2 u3 u4 u5 u6 u7 o C E k9 (fun v => v = zl b9) := by
  obtain ⟨hC, hE8, hD0, hD, hM⟩ := moQ_bd hQ
  obtain ⟨ov9, ho9, hk, hA⟩ := hA
  obtain ⟨hK, hB⟩ := hB
  have hQ1 := moQ_km hQ hk
  have hkc := moQ_kc hQ1 hK
  have ho2 := hkc _ _ ho9 (mE_o _ _ _)
  rcases hA with ⟨rfl, h1, h2⟩ | ⟨rfl, ⟨a1, a2, a3⟩, h2⟩ | ⟨rfl, r9, hv, j, k, q, h1, a1, a2, a3, a4, a5, h6⟩ <;> rcases hB with ⟨g1, g2⟩ | ⟨b1, b2, b3, g2⟩ | ⟨j', k', q', g1, b1, b2, b3, b4, b5, g6⟩
  · exact ⟨_, _, _, _, _, _, ov9, clQ_kc h2 hkc, g2, ho2, fun z => absurd z (by decide)⟩
  · exact (h1.elim (fun z => by obtain ⟨j, h⟩ := b1; exact z j h) (fun z => z b2)).elim
  · exact (h1.elim (fun z => z j' g1) (fun z => z ⟨k', q', b1, b2, b3, b4⟩)).elim
  · exact (g1.elim (fun z => by obtain ⟨j, h⟩ := a1; exact z j h) (fun z => z a2)).elim
  · exact ⟨_, _, _, _, _, _, ov9, clQ_kc h2 hkc, g2, ho2, fun z => absurd z (by decide)⟩
  · exact absurd b5 a3
  · exact (g1.elim (fun z => z j h1) (fun z => z ⟨k, q, a1, a2, a3, a4⟩)).elim
  · exact absurd a5 b3
  · obtain rfl := okP_uq h1 g1
    obtain rfl := nI_uq (by omega) (by omega) a3 b3
    obtain rfl := nI_uq (by omega) (by omega) a4 b4
    rcases h6 with ⟨e1, h3, h2⟩ | ⟨e1, h3, h2⟩ <;> rcases g6 with ⟨e2, g3, g2⟩ | ⟨e2, g3, g2⟩
    · exact ⟨_, _, _, _, _, _, ov9, clQ_kc h2 hkc, g2, ho2, fun _ => hv.trans (congrArg zl (h3.trans g3.symm))⟩
    · exact absurd e1 e2
    · exact absurd e2 e1
    · exact ⟨_, _, _, _, _, _, ov9, clQ_kc h2 hkc, g2, ho2, fun _ => hv.trans (congrArg zl (h3.trans g3.symm))⟩
theorem j_machine {Z : gZ} {G G1 G2 : gh} {x o mo u1 u2 u3 u4 u5 u6 u7 C E M D : Nat} {fk tp th : Int32} {pt : Nat → Option Nat} {pd : Nat → Pat} {k0 b : Int32} {k9 : Int32} {b9 : Int32} (hQ : moQ Z G mo u1 u2 u3 u4 u5 u6 u7 th C E M D fk tp pt pd) (hA : ∃ ov9, G1 o = some (.inl (Z.2 0, 1, .inr (.inl ov9))) ∧ kX mE G G1 ∧ ((k9 = 1 ∧ (¬ ∃ k, k < D ∧ k0 = nI k) ∧ clQ Z G1 x C E M D fk tp pt pd) ∨ (k9 = 2 ∧ (k0 = nI (D - 1) ∧ b = 0) ∧ clQ Z G1 x C E M D fk tp pt pd) ∨ (k9 = 0 ∧ ∃ r9 : Int32, ov9 0 = zl r9 ∧ (∃ k, k < D ∧ k0 = nI k ∧ ¬ (k = D - 1 ∧ b = 0) ∧ ((tapC tp (nI k) = b ∧ r9 = 0 ∧ clQ Z G1 x C E M D fk tp pt pd) ∨ (¬ tapC tp (nI k) = b ∧ r9 = 1 ∧ clQ Z G1 x C E M D fk (tp ^^^ ((1 : Int32) <<< (nI k &&& 31))) pt (fgN pt pd 24))))))) (hB : gKe (moI mo u1 u2 u3 u4 u5 u6 u7) G1 G2 ∧ (((¬ ∃ k, k < D ∧ k0 = nI k) ∧ moQ Z G2 mo u1 u2 u3 u4 u5 u6 u7 1 C E M D fk tp pt pd) ∨ (k0 = nI (D - 1) ∧ b = 0 ∧ moQ Z G2 mo u1 u2 u3 u4 u5 u6 u7 2 C E M D fk tp pt pd) ∨ (∃ k, k < D ∧ k0 = nI k ∧ ¬ (k = D - 1 ∧ b = 0) ∧ ((tapC tp (nI k) = b ∧ b9 = 0 ∧ moQ Z G2 mo u1 u2 u3 u4 u5 u6 u7 0 C E M D fk tp pt pd) ∨ (¬ tapC tp (nI k) = b ∧ b9 = 1 ∧ moQ Z G2 mo u1 u2 u3 u4 u5 u6 u7 0 C E M D fk (tp ^^^ ((1 : Int32) <<< (nI k &&& 31))) pt (fgN pt pd 24)))))) : lwJ Z G2 x mo u1 u2 u3 u4 u5 u6 u7 o C E k9 (fun v => v = zl b9) := by
  obtain ⟨hC, hE8, hD0, hD, hM⟩ := moQ_bd hQ
  obtain ⟨ov9, ho9, hk, hA⟩ := hA
  obtain ⟨hK, hB⟩ := hB
  have hQ1 := moQ_km hQ hk
  have hkc := moQ_kc hQ1 hK
  have ho2 := hkc _ _ ho9 (mE_o _ _ _)
  rcases hA with ⟨rfl, h1, h2⟩ | ⟨rfl, ⟨a1, a2⟩, h2⟩ | ⟨rfl, r9, hv, k, h1, a1, a2, h6⟩ <;> rcases hB with ⟨g1, g2⟩ | ⟨b1, b2, g2⟩ | ⟨k', g1, b1, b2, g6⟩
  · exact ⟨_, _, _, _, _, _, ov9, clQ_kc h2 hkc, g2, ho2, fun z => absurd z (by decide)⟩
  · exact absurd ⟨D - 1, by omega, b1⟩ h1
  · exact absurd ⟨k', g1, b1⟩ h1
  · exact absurd ⟨D - 1, by omega, a1⟩ g1
  · exact ⟨_, _, _, _, _, _, ov9, clQ_kc h2 hkc, g2, ho2, fun z => absurd z (by decide)⟩
  · exact absurd ⟨nI_uq (by omega) (by omega) b1 a1, a2⟩ b2
  · exact absurd ⟨k, h1, a1⟩ g1
  · exact absurd ⟨nI_uq (by omega) (by omega) a1 b1, b2⟩ a2
  · obtain rfl := nI_uq (by omega) (by omega) a1 b1
    rcases h6 with ⟨e1, h3, h2⟩ | ⟨e1, h3, h2⟩ <;> rcases g6 with ⟨e2, g3, g2⟩ | ⟨e2, g3, g2⟩
    · exact ⟨_, _, _, _, _, _, ov9, clQ_kc h2 hkc, g2, ho2, fun _ => hv.trans (congrArg zl (h3.trans g3.symm))⟩
    · exact absurd e1 e2
    · exact absurd e2 e1
    · exact ⟨_, _, _, _, _, _, ov9, clQ_kc h2 hkc, g2, ho2, fun _ => hv.trans (congrArg zl (h3.trans g3.symm))⟩
theorem j_degree {Z : gZ} {G G1 G2 : gh} {x o mo u1 u2 u3 u4 u5 u6 u7 C E M D : Nat} {fk tp th : Int32} {pt : Nat → Option Nat} {pd : Nat → Pat} {d : Int32} {k9 : Int32} {ov : Nat → Int64} (ho : G o = some (.inl (Z.2 0, 1, .inr (.inl ov)))) (hQ : moQ Z G mo u1 u2 u3 u4 u5 u6 u7 th C E M D fk tp pt pd) (hA : kX noC G G1 ∧ ((k9 = 1 ∧ (¬ ∃ N, 1 ≤ N ∧ N ≤ 16 ∧ d = nI N) ∧ clQ Z G1 x C E M D fk tp pt pd) ∨ (k9 = 0 ∧ ∃ N, 1 ≤ N ∧ N ≤ 16 ∧ d = nI N ∧ clQ Z G1 x C E M N fk ((1 : Int32) <<< ((d - 1) &&& 31)) pt (fgN pt pd 24)))) (hB : gKe (moI mo u1 u2 u3 u4 u5 u6 u7) G1 G2 ∧ (((¬ ∃ N, 1 ≤ N ∧ N ≤ 16 ∧ d = nI N) ∧ moQ Z G2 mo u1 u2 u3 u4 u5 u6 u7 1 C E M D fk tp pt pd) ∨ (∃ N, 1 ≤ N ∧ N ≤ 16 ∧ d = nI N ∧ moQ Z G2 mo u1 u2 u3 u4 u5 u6 u7 0 C E M N fk ((1 : Int32) <<< ((d - 1) &&& 31)) pt (fgN pt pd 24)))) : lwJ Z G2 x mo u1 u2 u3 u4 u5 u6 u7 o C E k9 (fun _ => True) := by
  obtain ⟨hC, hE8, hD0, hD, hM⟩ := moQ_bd hQ
  obtain ⟨hk0, hA⟩ := hA
  obtain ⟨hK, hB⟩ := hB
  have hk := hk0.mono (fun _ h => Or.inl h : ∀ e, mE e → noC e)
  have ho9 := hk0 _ _ ho (Or.inr ⟨_, _, rfl⟩)
  have hQ1 := moQ_km hQ hk
  have hkc := moQ_kc hQ1 hK
  have ho2 := hkc _ _ ho9 (mE_o _ _ _)
  rcases hA with ⟨rfl, h1, h2⟩ | ⟨rfl, N, a1, a2, a3, h2⟩ <;> rcases hB with ⟨g1, g2⟩ | ⟨N', b1, b2, b3, g2⟩
  · exact ⟨_, _, _, _, _, _, ov, clQ_kc h2 hkc, g2, ho2, fun _ => trivial⟩
  · exact absurd ⟨N', b1, b2, b3⟩ h1
  · exact absurd ⟨N, a1, a2, a3⟩ g1
  · obtain rfl := nI_uq (by omega) (by omega) a3 b3
    exact ⟨_, _, _, _, _, _, ov, clQ_kc h2 hkc, g2, ho2, fun _ => trivial⟩
theorem j_join {Z : gZ} {G G1 G2 : gh} {x o mo u1 u2 u3 u4 u5 u6 u7 C E M D : Nat} {fk tp th : Int32} {pt : Nat → Option Nat} {pd : Nat → Pat} {ov : Nat → Int64} {b9 : Int32} (hQ : moQ Z G mo u1 u2 u3 u4 u5 u6 u7 th C E M D fk tp pt pd) (hcl : clQ Z G1 x C E M D fk tp pt (joinD pt pd 24)) (hk : kX noC G G1) (ho : G o = some (.inl (Z.2 0, 1, .inr (.inl ov)))) (hB : gKe (moI mo u1 u2 u3 u4 u5 u6 u7) G1 G2 ∧ (moQ Z G2 mo u1 u2 u3 u4 u5 u6 u7 0 C E M D fk tp pt (joinD pt pd 24) ∧ b9 = nI (cntP pt (joinD pt pd 24) 24))) : lwJ Z G2 x mo u1 u2 u3 u4 u5 u6 u7 o C E 0 (fun _ => True) := by
  obtain ⟨hK, hB⟩ := hB
  have hQ1 := moQ_km hQ (hk.mono (fun _ h => Or.inl h : ∀ e, mE e → noC e))
  have hkc := moQ_kc hQ1 hK
  have ho2 := hkc _ _ (hk _ _ ho (Or.inr ⟨_, _, rfl⟩)) (mE_o _ _ _)
  exact ⟨_, _, _, _, _, _, ov, clQ_kc hcl hkc, hB.1, ho2, fun _ => trivial⟩
theorem j_drop {Z : gZ} {G G1 G2 : gh} {x o mo u1 u2 u3 u4 u5 u6 u7 C E M D : Nat} {fk tp th : Int32} {pt : Nat → Option Nat} {pd : Nat → Pat} {ov : Nat → Int64} {b9 : Int32} (hQ : moQ Z G mo u1 u2 u3 u4 u5 u6 u7 th C E M D fk tp pt pd) (hcl : clQ Z G1 x C E M D fk tp pt (drS pt 24 pd)) (hk : kX noC G G1) (ho : G o = some (.inl (Z.2 0, 1, .inr (.inl ov)))) (hB : gKe (moI mo u1 u2 u3 u4 u5 u6 u7) G1 G2 ∧ (moQ Z G2 mo u1 u2 u3 u4 u5 u6 u7 0 C E M D fk tp pt (drS pt 24 pd) ∧ b9 = nI (cntP pt (drS pt 24 pd) 24))) : lwJ Z G2 x mo u1 u2 u3 u4 u5 u6 u7 o C E 0 (fun _ => True) := by
  obtain ⟨hK, hB⟩ := hB
  have hQ1 := moQ_km hQ (hk.mono (fun _ h => Or.inl h : ∀ e, mE e → noC e))
  have hkc := moQ_kc hQ1 hK
  have ho2 := hkc _ _ (hk _ _ ho (Or.inr ⟨_, _, rfl⟩)) (mE_o _ _ _)
  exact ⟨_, _, _, _, _, _, ov, clQ_kc hcl hkc, hB.1, ho2, fun _ => trivial⟩
theorem j_primitive {Z : gZ} {G G1 G2 : gh} {x o mo u1 u2 u3 u4 u5 u6 u7 C E M D : Nat} {fk tp th : Int32} {pt : Nat → Option Nat} {pd : Nat → Pat} {ov : Nat → Int64} {b9 : Int32} (hQ : moQ Z G mo u1 u2 u3 u4 u5 u6 u7 th C E M D fk tp pt pd) (hcl : clQ Z G1 x C E M D fk tp pt pd) (hk : kX noC G G1) (ho : G o = some (.inl (Z.2 0, 1, .inr (.inl ov)))) (hB : gKe (moI mo u1 u2 u3 u4 u5 u6 u7) G1 G2 ∧ (((b9 = 1 ∧ lcC (nI D) tp (2 ^ D - 1)) ∨ (b9 = 0 ∧ ¬ lcC (nI D) tp (2 ^ D - 1))) ∧ moQ Z G2 mo u1 u2 u3 u4 u5 u6 u7 0 C E M D fk tp pt pd)) : lwJ Z G2 x mo u1 u2 u3 u4 u5 u6 u7 o C E 0 (fun _ => True) := by
  obtain ⟨hK, hB⟩ := hB
  have hQ1 := moQ_km hQ (hk.mono (fun _ h => Or.inl h : ∀ e, mE e → noC e))
  have hkc := moQ_kc hQ1 hK
  have ho2 := hkc _ _ (hk _ _ ho (Or.inr ⟨_, _, rfl⟩)) (mE_o _ _ _)
  exact ⟨_, _, _, _, _, _, ov, clQ_kc hcl hkc, hB.2, ho2, fun _ => trivial⟩
