set_option maxHeartbeats 600000 in
set_option maxRecDepth 100000 in
theorem c_mo_alias (l : Launch) (Z : gZ) (G : gh) (sz : Nat) (mo : Nat) {u1 u2 u3 u4 u5 u6 u7 : Nat} {th : Int32} {C E M D : Nat} {fl tp : Int32} {pt : Nat → Option Nat} {pd : Nat → Pat} (hQ : moQ Z G mo u1 u2 u3 u4 u5 u6 u7 th C E M D fl tp pt pd) (n0 q0 : Int32) : Met l y_mo_alias (wd_mo_alias :: Gall) ({ frames := 2, cells := 0, slots := 0, locals := 49 }) (va_Pc [.ref mo, .int n0, .int q0] (gPw Z G sz)) (va_Ql (fun (r : Int64) (G9 : gh) => gKe (moI mo u1 u2 u3 u4 u5 u6 u7) G G9 ∧ (((¬ ((∃ N, 1 ≤ N ∧ N ≤ 60 ∧ n0 = nI N) ∧ (q0 = 0 ∨ q0 = 1))) ∧ moQ Z G9 mo u1 u2 u3 u4 u5 u6 u7 1 C E M D fl tp pt pd) ∨ (∃ N, 1 ≤ N ∧ N ≤ 60 ∧ n0 = nI N ∧ (q0 = 0 ∨ q0 = 1) ∧ moQ Z G9 mo u1 u2 u3 u4 u5 u6 u7 0 C E M D fl tp pt pd ∧ r = (if q0 = 0 then lN (2 ^ (N - D) - 1) else lN (2 ^ N - 1)) / gcdC (lN (2 ^ N - 1)) (lN (2 ^ (N - D) - 1))))) (gW Z G sz) (gA G sz)) 0 0 (gA G sz) := by
  refine Met.ofW (cc := b_mo_alias) (maxL := 13) (ret := (some .long)) (by decide) rfl ?_
  intro p e s m args below meth c s₁ B hml hv
  obtain ⟨rfl, hsz, hG, hE⟩ := hv
  subst hsz
  have hx := B.exec
  have hb := B.bytes
  have hr := B.returns
  have hlocks := B.notSynchronized
  have S : CallFix p m c b_mo_alias 13 s _ Gall "PackSeedsModel" := ⟨hx, hb, hml, findClass_of_methodNamed B.named, fun w hw => atoms_spec (ws := wd_mo_alias :: Gall) B.pre w (List.mem_cons_of_mem _ hw)⟩
  have hG : gS (gA G s.heap.size) s.heap Z.1 cls G s.heap [] := gS.start hG
  have hl := lv_entry ([.ref mo, .int n0, .int q0]) (n := 13) (Nat.le_of_ble_eq_true rfl)
  rw [lg_entry_eq]
  generalize (lg_sl ([.ref mo, .int n0, .int q0]) ++ List.replicate (13 - (lg_sl ([.ref mo, .int n0, .int q0])).length) Slot.unset).toArray = ls at hl ⊢
  have hl : lv_has ls 13 [(0, .ref mo), (1, .int n0), (2, .int q0)] := hl
  have hK : gKe (moI mo u1 u2 u3 u4 u5 u6 u7) G G := gKe.rf
  obtain ⟨cf, mf, ff, gf, sf, tf, bf, hP, hR, hT, hC, hE8, hfl⟩ := hQ
  have hP0 := hP
  obtain ⟨hmo, hc1, hc2, hc3, hc4, hc5, hc6, hc7, n12, n45, n67⟩ := hP
  have hM24 := hR.1
  have hD1 := hT.1
  have hD16 := hT.2.1
  refine lv_aload_n hx hb d_mo_alias_0 rfl (lv_at hl 0 rfl) ?_
  refine lv_iload_n hx hb d_mo_alias_1 rfl (lv_at hl 1 rfl) ?_
  refine lv_iconst (v := 1) hx hb d_mo_alias_2 (by decide) ?_
  refine lv_icmp_lt (tgt := 21) hx hb d_mo_alias_3 (by decide) (fun c3 => ?_) (fun c3 => ?_)
  · refine lv_iconst (v := 1) hx hb d_mo_alias_21 (by decide) ?_
    refine lv_goto (tgt := 26) hx hb d_mo_alias_22 (by decide) ?_
    refine g_put S hE.1 hG hmo rfl in_mo ty_mo tyok_mo nm_mo 0 (by decide) tw_491 (fun _ h9 => h9) rfl (ty := .int) (by decide +kernel) rfl rfl (Nat.le_of_ble_eq_true rfl) d_mo_alias_26 (fun H locs hG => ?_)
    have hG : gS (gA G s.heap.size) s.heap Z.1 cls (gup G mo (.inr (4, [.int 1, .int (nI C), .int (nI E), .ref u1, .ref u2, .ref u3, .ref u4, .ref u5, .int (nI M), .int (nI D), .ref u6, .int fl, .ref u7]))) H locs := hG
    generalize eG26 : gup G mo (.inr (4, [.int 1, .int (nI C), .int (nI E), .ref u1, .ref u2, .ref u3, .ref u4, .ref u5, .int (nI M), .int (nI D), .ref u6, .int fl, .ref u7])) = G26 at hG
    have f26_u1 : G26 u1 = some (.inl (Z.2 1, 768, .inl cf)) := by rw [← eG26]; exact gup_keep hmo hc1 (by simp)
    have f26_u2 : G26 u2 = some (.inl (Z.2 2, 768, .inl mf)) := by rw [← eG26]; exact gup_keep hmo hc2 (by simp)
    have f26_u3 : G26 u3 = some (.inl (Z.2 2, 744, .inl ff)) := by rw [← eG26]; exact gup_keep hmo hc3 (by simp)
    have f26_u4 : G26 u4 = some (.inl (Z.2 2, 24, .inl gf)) := by rw [← eG26]; exact gup_keep hmo hc4 (by simp)
    have f26_u5 : G26 u5 = some (.inl (Z.2 1, 24, .inl sf)) := by rw [← eG26]; exact gup_keep hmo hc5 (by simp)
    have f26_u6 : G26 u6 = some (.inl (Z.2 2, 16, .inl tf)) := by rw [← eG26]; exact gup_keep hmo hc6 (by simp)
    have f26_u7 : G26 u7 = some (.inl (Z.2 1, 16, .inl bf)) := by rw [← eG26]; exact gup_keep hmo hc7 (by simp)
    have f26 : G26 mo = some (.inr (4, [.int 1, .int (nI C), .int (nI E), .ref u1, .ref u2, .ref u3, .ref u4, .ref u5, .int (nI M), .int (nI D), .ref u6, .int fl, .ref u7])) := by rw [← eG26]; exact gup_self _ _ _
    have hK : gKe (moI mo u1 u2 u3 u4 u5 u6 u7) G G26 := by rw [← eG26]; exact hK.up (by simp [moI])
    refine lv_aload_n hx hb d_mo_alias_29 rfl (lv_at hl 0 rfl) ?_
    refine g_get S hE.1 hG.1 f26 rfl in_mo 0 (by decide) tw_491 (fun _ h9 => h9) rfl d_mo_alias_30 ?_
    refine lv_if_le (tgt := 38) hx hb d_mo_alias_33 (by decide) (fun c33 => absurd c33 (by decide)) (fun c33 => ?_)
    refine lv_lconst (v := 0) hx hb d_mo_alias_36 (by decide) ?_
    refine W.widen (k := 0) (n := 0) (Nat.le_of_ble_eq_true rfl) (Nat.le_of_ble_eq_true rfl) ?_
    exact (W.lret hx hb hr (fun t9 ht9 hW9 => ⟨⟨_, _, rfl, ⟨hK, Or.inl ⟨(by rintro ⟨⟨N, h1, h2, rfl⟩, h3⟩; first | exact (rng60' h1 h2).1 c3 | exact absurd c9 (Int32.not_lt.mpr (rng60' h1 h2).2) | (rcases h3 with rfl | rfl <;> exact absurd c13 (by decide)) | (rcases h3 with rfl | rfl <;> exact absurd c18 (by decide))), ⟨_, _, _, _, _, _, _, ⟨f26, f26_u1, f26_u2, f26_u3, f26_u4, f26_u5, f26_u6, f26_u7, n12, n45, n67⟩, hR, hT, hC, hE8, hfl⟩⟩⟩, by rw [ht9]; exact hG.1, hG.2.1⟩, hG.2.2.1.F ht9⟩) hG.2.2.1.2.2 d_mo_alias_37)
  · refine lv_iload_n hx hb d_mo_alias_6 rfl (lv_at hl 1 rfl) ?_
    refine lv_bipush (v := 60) hx hb d_mo_alias_7 (by decide) ?_
    refine lv_icmp_gt (tgt := 21) hx hb d_mo_alias_9 (by decide) (fun c9 => ?_) (fun c9 => ?_)
    · refine lv_iconst (v := 1) hx hb d_mo_alias_21 (by decide) ?_
      refine lv_goto (tgt := 26) hx hb d_mo_alias_22 (by decide) ?_
      refine g_put S hE.1 hG hmo rfl in_mo ty_mo tyok_mo nm_mo 0 (by decide) tw_491 (fun _ h9 => h9) rfl (ty := .int) (by decide +kernel) rfl rfl (Nat.le_of_ble_eq_true rfl) d_mo_alias_26 (fun H locs hG => ?_)
      have hG : gS (gA G s.heap.size) s.heap Z.1 cls (gup G mo (.inr (4, [.int 1, .int (nI C), .int (nI E), .ref u1, .ref u2, .ref u3, .ref u4, .ref u5, .int (nI M), .int (nI D), .ref u6, .int fl, .ref u7]))) H locs := hG
      generalize eG26 : gup G mo (.inr (4, [.int 1, .int (nI C), .int (nI E), .ref u1, .ref u2, .ref u3, .ref u4, .ref u5, .int (nI M), .int (nI D), .ref u6, .int fl, .ref u7])) = G26 at hG
      have f26_u1 : G26 u1 = some (.inl (Z.2 1, 768, .inl cf)) := by rw [← eG26]; exact gup_keep hmo hc1 (by simp)
      have f26_u2 : G26 u2 = some (.inl (Z.2 2, 768, .inl mf)) := by rw [← eG26]; exact gup_keep hmo hc2 (by simp)
      have f26_u3 : G26 u3 = some (.inl (Z.2 2, 744, .inl ff)) := by rw [← eG26]; exact gup_keep hmo hc3 (by simp)
      have f26_u4 : G26 u4 = some (.inl (Z.2 2, 24, .inl gf)) := by rw [← eG26]; exact gup_keep hmo hc4 (by simp)
      have f26_u5 : G26 u5 = some (.inl (Z.2 1, 24, .inl sf)) := by rw [← eG26]; exact gup_keep hmo hc5 (by simp)
      have f26_u6 : G26 u6 = some (.inl (Z.2 2, 16, .inl tf)) := by rw [← eG26]; exact gup_keep hmo hc6 (by simp)
      have f26_u7 : G26 u7 = some (.inl (Z.2 1, 16, .inl bf)) := by rw [← eG26]; exact gup_keep hmo hc7 (by simp)
      have f26 : G26 mo = some (.inr (4, [.int 1, .int (nI C), .int (nI E), .ref u1, .ref u2, .ref u3, .ref u4, .ref u5, .int (nI M), .int (nI D), .ref u6, .int fl, .ref u7])) := by rw [← eG26]; exact gup_self _ _ _
      have hK : gKe (moI mo u1 u2 u3 u4 u5 u6 u7) G G26 := by rw [← eG26]; exact hK.up (by simp [moI])
      refine lv_aload_n hx hb d_mo_alias_29 rfl (lv_at hl 0 rfl) ?_
      refine g_get S hE.1 hG.1 f26 rfl in_mo 0 (by decide) tw_491 (fun _ h9 => h9) rfl d_mo_alias_30 ?_
      refine lv_if_le (tgt := 38) hx hb d_mo_alias_33 (by decide) (fun c33 => absurd c33 (by decide)) (fun c33 => ?_)
      refine lv_lconst (v := 0) hx hb d_mo_alias_36 (by decide) ?_
      refine W.widen (k := 0) (n := 0) (Nat.le_of_ble_eq_true rfl) (Nat.le_of_ble_eq_true rfl) ?_
      exact (W.lret hx hb hr (fun t9 ht9 hW9 => ⟨⟨_, _, rfl, ⟨hK, Or.inl ⟨(by rintro ⟨⟨N, h1, h2, rfl⟩, h3⟩; first | exact (rng60' h1 h2).1 c3 | exact absurd c9 (Int32.not_lt.mpr (rng60' h1 h2).2) | (rcases h3 with rfl | rfl <;> exact absurd c13 (by decide)) | (rcases h3 with rfl | rfl <;> exact absurd c18 (by decide))), ⟨_, _, _, _, _, _, _, ⟨f26, f26_u1, f26_u2, f26_u3, f26_u4, f26_u5, f26_u6, f26_u7, n12, n45, n67⟩, hR, hT, hC, hE8, hfl⟩⟩⟩, by rw [ht9]; exact hG.1, hG.2.1⟩, hG.2.2.1.F ht9⟩) hG.2.2.1.2.2 d_mo_alias_37)
    · refine lv_iload_n hx hb d_mo_alias_12 rfl (lv_at hl 2 rfl) ?_
      refine lv_if_lt (tgt := 21) hx hb d_mo_alias_13 (by decide) (fun c13 => ?_) (fun c13 => ?_)
      · refine lv_iconst (v := 1) hx hb d_mo_alias_21 (by decide) ?_
        refine lv_goto (tgt := 26) hx hb d_mo_alias_22 (by decide) ?_
        refine g_put S hE.1 hG hmo rfl in_mo ty_mo tyok_mo nm_mo 0 (by decide) tw_491 (fun _ h9 => h9) rfl (ty := .int) (by decide +kernel) rfl rfl (Nat.le_of_ble_eq_true rfl) d_mo_alias_26 (fun H locs hG => ?_)
        have hG : gS (gA G s.heap.size) s.heap Z.1 cls (gup G mo (.inr (4, [.int 1, .int (nI C), .int (nI E), .ref u1, .ref u2, .ref u3, .ref u4, .ref u5, .int (nI M), .int (nI D), .ref u6, .int fl, .ref u7]))) H locs := hG
        generalize eG26 : gup G mo (.inr (4, [.int 1, .int (nI C), .int (nI E), .ref u1, .ref u2, .ref u3, .ref u4, .ref u5, .int (nI M), .int (nI D), .ref u6, .int fl, .ref u7])) = G26 at hG
        have f26_u1 : G26 u1 = some (.inl (Z.2 1, 768, .inl cf)) := by rw [← eG26]; exact gup_keep hmo hc1 (by simp)
        have f26_u2 : G26 u2 = some (.inl (Z.2 2, 768, .inl mf)) := by rw [← eG26]; exact gup_keep hmo hc2 (by simp)
        have f26_u3 : G26 u3 = some (.inl (Z.2 2, 744, .inl ff)) := by rw [← eG26]; exact gup_keep hmo hc3 (by simp)
        have f26_u4 : G26 u4 = some (.inl (Z.2 2, 24, .inl gf)) := by rw [← eG26]; exact gup_keep hmo hc4 (by simp)
        have f26_u5 : G26 u5 = some (.inl (Z.2 1, 24, .inl sf)) := by rw [← eG26]; exact gup_keep hmo hc5 (by simp)
        have f26_u6 : G26 u6 = some (.inl (Z.2 2, 16, .inl tf)) := by rw [← eG26]; exact gup_keep hmo hc6 (by simp)
        have f26_u7 : G26 u7 = some (.inl (Z.2 1, 16, .inl bf)) := by rw [← eG26]; exact gup_keep hmo hc7 (by simp)
        have f26 : G26 mo = some (.inr (4, [.int 1, .int (nI C), .int (nI E), .ref u1, .ref u2, .ref u3, .ref u4, .ref u5, .int (nI M), .int (nI D), .ref u6, .int fl, .ref u7])) := by rw [← eG26]; exact gup_self _ _ _
        have hK : gKe (moI mo u1 u2 u3 u4 u5 u6 u7) G G26 := by rw [← eG26]; exact hK.up (by simp [moI])
        refine lv_aload_n hx hb d_mo_alias_29 rfl (lv_at hl 0 rfl) ?_
        refine g_get S hE.1 hG.1 f26 rfl in_mo 0 (by decide) tw_491 (fun _ h9 => h9) rfl d_mo_alias_30 ?_
        refine lv_if_le (tgt := 38) hx hb d_mo_alias_33 (by decide) (fun c33 => absurd c33 (by decide)) (fun c33 => ?_)
        refine lv_lconst (v := 0) hx hb d_mo_alias_36 (by decide) ?_
        refine W.widen (k := 0) (n := 0) (Nat.le_of_ble_eq_true rfl) (Nat.le_of_ble_eq_true rfl) ?_
        exact (W.lret hx hb hr (fun t9 ht9 hW9 => ⟨⟨_, _, rfl, ⟨hK, Or.inl ⟨(by rintro ⟨⟨N, h1, h2, rfl⟩, h3⟩; first | exact (rng60' h1 h2).1 c3 | exact absurd c9 (Int32.not_lt.mpr (rng60' h1 h2).2) | (rcases h3 with rfl | rfl <;> exact absurd c13 (by decide)) | (rcases h3 with rfl | rfl <;> exact absurd c18 (by decide))), ⟨_, _, _, _, _, _, _, ⟨f26, f26_u1, f26_u2, f26_u3, f26_u4, f26_u5, f26_u6, f26_u7, n12, n45, n67⟩, hR, hT, hC, hE8, hfl⟩⟩⟩, by rw [ht9]; exact hG.1, hG.2.1⟩, hG.2.2.1.F ht9⟩) hG.2.2.1.2.2 d_mo_alias_37)
      · refine lv_iload_n hx hb d_mo_alias_16 rfl (lv_at hl 2 rfl) ?_
        refine lv_iconst (v := 1) hx hb d_mo_alias_17 (by decide) ?_
        refine lv_icmp_le (tgt := 25) hx hb d_mo_alias_18 (by decide) (fun c18 => ?_) (fun c18 => ?_)
        · refine lv_iconst (v := 0) hx hb d_mo_alias_25 (by decide) ?_
          refine g_put S hE.1 hG hmo rfl in_mo ty_mo tyok_mo nm_mo 0 (by decide) tw_491 (fun _ h9 => h9) rfl (ty := .int) (by decide +kernel) rfl rfl (Nat.le_of_ble_eq_true rfl) d_mo_alias_26 (fun H locs hG => ?_)
          have hG : gS (gA G s.heap.size) s.heap Z.1 cls (gup G mo (.inr (4, [.int 0, .int (nI C), .int (nI E), .ref u1, .ref u2, .ref u3, .ref u4, .ref u5, .int (nI M), .int (nI D), .ref u6, .int fl, .ref u7]))) H locs := hG
          generalize eG26 : gup G mo (.inr (4, [.int 0, .int (nI C), .int (nI E), .ref u1, .ref u2, .ref u3, .ref u4, .ref u5, .int (nI M), .int (nI D), .ref u6, .int fl, .ref u7])) = G26 at hG
          have f26_u1 : G26 u1 = some (.inl (Z.2 1, 768, .inl cf)) := by rw [← eG26]; exact gup_keep hmo hc1 (by simp)
          have f26_u2 : G26 u2 = some (.inl (Z.2 2, 768, .inl mf)) := by rw [← eG26]; exact gup_keep hmo hc2 (by simp)
          have f26_u3 : G26 u3 = some (.inl (Z.2 2, 744, .inl ff)) := by rw [← eG26]; exact gup_keep hmo hc3 (by simp)
          have f26_u4 : G26 u4 = some (.inl (Z.2 2, 24, .inl gf)) := by rw [← eG26]; exact gup_keep hmo hc4 (by simp)
          have f26_u5 : G26 u5 = some (.inl (Z.2 1, 24, .inl sf)) := by rw [← eG26]; exact gup_keep hmo hc5 (by simp)
          have f26_u6 : G26 u6 = some (.inl (Z.2 2, 16, .inl tf)) := by rw [← eG26]; exact gup_keep hmo hc6 (by simp)
          have f26_u7 : G26 u7 = some (.inl (Z.2 1, 16, .inl bf)) := by rw [← eG26]; exact gup_keep hmo hc7 (by simp)
          have f26 : G26 mo = some (.inr (4, [.int 0, .int (nI C), .int (nI E), .ref u1, .ref u2, .ref u3, .ref u4, .ref u5, .int (nI M), .int (nI D), .ref u6, .int fl, .ref u7])) := by rw [← eG26]; exact gup_self _ _ _
          have hK : gKe (moI mo u1 u2 u3 u4 u5 u6 u7) G G26 := by rw [← eG26]; exact hK.up (by simp [moI])
          refine lv_aload_n hx hb d_mo_alias_29 rfl (lv_at hl 0 rfl) ?_
          refine g_get S hE.1 hG.1 f26 rfl in_mo 0 (by decide) tw_491 (fun _ h9 => h9) rfl d_mo_alias_30 ?_
          refine lv_if_le (tgt := 38) hx hb d_mo_alias_33 (by decide) (fun c33 => ?_) (fun c33 => absurd c33 (by decide))
          obtain ⟨N, hN1, hN2, eN⟩ := rng60 c3 (Int32.not_lt.mp c9)
          subst eN
          have hA : 2 ≤ 2 ^ N ∧ 2 ^ N ≤ 1152921504606846976 := by
            have h1 : 2 ^ 1 ≤ 2 ^ N := Nat.pow_le_pow_right (by omega) hN1
            have h2 : 2 ^ N ≤ 2 ^ 60 := Nat.pow_le_pow_right (by omega) hN2
            omega
          have hBB : 1 ≤ 2 ^ (N - D) ∧ 2 ^ (N - D) ≤ 2 ^ N := ⟨Nat.one_le_two_pow, Nat.pow_le_pow_right (by omega) (by omega)⟩
          refine lv_lconst (v := 1) hx hb d_mo_alias_38 (by decide) ?_
          refine lv_iload_n hx hb d_mo_alias_39 rfl (lv_at hl 1 rfl) ?_
          refine lv_aload_n hx hb d_mo_alias_40 rfl (lv_at hl 0 rfl) ?_
          refine lv_iload_n hx hb d_mo_alias_41 rfl (lv_at hl 1 rfl) ?_
          refine g_wi hG (g_runV (As := [.int (nI N)]) (rest := [.int (nI N), .long 1]) S lk_mo_89 k_mo_rank (c_mo_rank l Z G26 H.size mo ⟨f26, f26_u1, f26_u2, f26_u3, f26_u4, f26_u5, f26_u6, f26_u7, n12, n45, n67⟩ hT N (by omega)) ⟨rfl, rfl⟩ ⟨(Nat.le_of_ble_eq_true rfl), (Nat.le_of_ble_eq_true rfl)⟩ (gPwV hG.1 hE f26 rfl) rfl hl.1 rfl (Nat.le_of_ble_eq_true rfl) d_mo_alias_42 ⟨(Nat.le_of_ble_eq_true rfl), (Nat.le_of_ble_eq_true rfl)⟩) (fun r42 G42 H locs h42 hG => ?_)
          obtain ⟨hr42, b9, hK42, hQ42⟩ := h42
          subst hr42
          obtain ⟨hmos, hc1s, hc2s, hc3s, hc4s, hc5s, hc6s, hc7s, -⟩ := hQ42
          have hK : gKe (moI mo u1 u2 u3 u4 u5 u6 u7) G G42 := hK.tr hK42
          refine lv_isub hx hb d_mo_alias_45 ?_
          refine g_topi (y := nI (N - D)) (by rw [pk_sub (by omega)]; congr 1; omega) ?_
          refine lv_lshl hx hb d_mo_alias_46 rfl ?_
          refine lv_lconst (v := 1) hx hb d_mo_alias_47 (by decide) ?_
          refine lv_lsub hx hb d_mo_alias_48 ?_
          refine g_topl (y := lN (2 ^ (N - D) - 1)) (lshl1 (N - D) (by omega)) ?_
          refine lv_lstore_n (lv' := [(3, .long (lN (2 ^ (N - D) - 1))), (0, .ref mo), (1, .int (nI N)), (2, .int q0)]) hx hb d_mo_alias_49 rfl hl (by decide) rfl (fun ls hl => ?_)
          refine lv_lconst (v := 1) hx hb d_mo_alias_50 (by decide) ?_
          refine lv_iload_n hx hb d_mo_alias_51 rfl (lv_at hl 2 rfl) ?_
          refine lv_lshl hx hb d_mo_alias_52 rfl ?_
          refine lv_lconst (v := 1) hx hb d_mo_alias_53 (by decide) ?_
          refine lv_lsub hx hb d_mo_alias_54 ?_
          refine g_topl (y := lN (2 ^ N - 1)) (lshl1 N (by omega)) ?_
          refine lv_lstore (lv' := [(5, .long (lN (2 ^ N - 1))), (3, .long (lN (2 ^ (N - D) - 1))), (0, .ref mo), (1, .int (nI N)), (2, .int q0)]) hx hb d_mo_alias_55 hl (by decide) rfl (fun ls hl => ?_)
          refine lv_lload hx hb d_mo_alias_57 (lv_at hl 0 rfl) ?_
          refine lv_lstore (lv' := [(7, .long (lN (2 ^ N - 1))), (5, .long (lN (2 ^ N - 1))), (3, .long (lN (2 ^ (N - D) - 1))), (0, .ref mo), (1, .int (nI N)), (2, .int q0)]) hx hb d_mo_alias_59 hl (by decide) rfl (fun ls hl => ?_)
          refine lv_lload_n hx hb d_mo_alias_61 rfl (lv_at hl 2 rfl) ?_
          refine lv_lstore (lv' := [(9, .long (lN (2 ^ (N - D) - 1))), (7, .long (lN (2 ^ N - 1))), (5, .long (lN (2 ^ N - 1))), (3, .long (lN (2 ^ (N - D) - 1))), (0, .ref mo), (1, .int (nI N)), (2, .int q0)]) hx hb d_mo_alias_62 hl (by decide) rfl (fun ls hl => ?_)
          refine g_ind (V := Nat × Nat) (fun (x, y) ls => (0 < x ∧ x < 2 ^ 61 ∧ y < 2 ^ 61 ∧ Nat.gcd x y = Nat.gcd (2 ^ N - 1) (2 ^ (N - D) - 1)) ∧ lv_has ls 13 [(0, .ref mo), (1, .int (nI N)), (2, .int q0), (3, .long (lN (2 ^ (N - D) - 1))), (5, .long (lN (2 ^ N - 1))), (7, .long (lN x)), (9, .long (lN y))]) (fun (x, y) => y) ?_ ((2 ^ N - 1), (2 ^ (N - D) - 1)) _ ⟨⟨by omega, by omega, by omega, rfl⟩, lv_sub hl [4, 5, 6, 3, 2, 1, 0] rfl⟩
          intro v ls hI ih64
          obtain ⟨x, y⟩ := v
          obtain ⟨⟨hx0, hx1, hy1, hgc⟩, hl⟩ := hI
          refine lv_lload hx hb d_mo_alias_64 (lv_at hl 6 rfl) ?_
          refine lv_lconst (v := 0) hx hb d_mo_alias_66 (by decide) ?_
          refine W.lcmp hx hb d_mo_alias_67 ?_
          refine lv_if_eq (tgt := 89) hx hb d_mo_alias_68 (by decide) (fun c68 => ?_) (fun c68 => ?_)
          · refine lv_iload_n hx hb d_mo_alias_89 rfl (lv_at hl 2 rfl) ?_
            refine lv_if_ne (tgt := 100) hx hb d_mo_alias_90 (by decide) (fun c90 => ?_) (fun c90 => ?_)
            · refine lv_lload hx hb d_mo_alias_100 (lv_at hl 4 rfl) ?_
              refine lv_lload hx hb d_mo_alias_102 (lv_at hl 5 rfl) ?_
              refine lv_ldiv hx hb d_mo_alias_104 (fun z => absurd ((lN0 (by omega)).mp z) (by omega)) ?_
              refine W.widen (k := 0) (n := 0) (Nat.le_of_ble_eq_true rfl) (Nat.le_of_ble_eq_true rfl) ?_
              exact (W.lret hx hb hr (fun t9 ht9 hW9 => ⟨⟨_, _, rfl, ⟨hK, Or.inr ⟨N, hN1, hN2, rfl, p01 c13 c18, ⟨_, _, _, _, _, _, _, ⟨hmos, hc1s, hc2s, hc3s, hc4s, hc5s, hc6s, hc7s, n12, n45, n67⟩, hR, hT, hC, hE8, hfl⟩, (by
                  have hy := (lN0 (by omega)).mp ((lg_cmp_eq _ _).mp c68)
                  rw [gcdC_gcd (by omega) (by omega) (by omega), ← hgc, hy, Nat.gcd_zero_right]; simp [c90])⟩⟩, by rw [ht9]; exact hG.1, hG.2.1⟩, hG.2.2.1.F ht9⟩) hG.2.2.1.2.2 d_mo_alias_105)
            · refine lv_lload_n hx hb d_mo_alias_93 rfl (lv_at hl 3 rfl) ?_
              refine lv_lload hx hb d_mo_alias_94 (lv_at hl 5 rfl) ?_
              refine lv_ldiv hx hb d_mo_alias_96 (fun z => absurd ((lN0 (by omega)).mp z) (by omega)) ?_
              refine lv_goto (tgt := 105) hx hb d_mo_alias_97 (by decide) ?_
              refine W.widen (k := 0) (n := 0) (Nat.le_of_ble_eq_true rfl) (Nat.le_of_ble_eq_true rfl) ?_
              exact (W.lret hx hb hr (fun t9 ht9 hW9 => ⟨⟨_, _, rfl, ⟨hK, Or.inr ⟨N, hN1, hN2, rfl, p01 c13 c18, ⟨_, _, _, _, _, _, _, ⟨hmos, hc1s, hc2s, hc3s, hc4s, hc5s, hc6s, hc7s, n12, n45, n67⟩, hR, hT, hC, hE8, hfl⟩, (by
                  have hy := (lN0 (by omega)).mp ((lg_cmp_eq _ _).mp c68)
                  rw [gcdC_gcd (by omega) (by omega) (by omega), ← hgc, hy, Nat.gcd_zero_right]; simp [c90])⟩⟩, by rw [ht9]; exact hG.1, hG.2.1⟩, hG.2.2.1.F ht9⟩) hG.2.2.1.2.2 d_mo_alias_105)
          · have hy0 : 0 < y := Nat.pos_of_ne_zero (fun z => c68 ((lg_cmp_eq _ _).mpr (by rw [z]; rfl)))
            refine lv_lload hx hb d_mo_alias_71 (lv_at hl 5 rfl) ?_
            refine lv_lload hx hb d_mo_alias_73 (lv_at hl 6 rfl) ?_
            refine lv_lrem hx hb d_mo_alias_75 (fun z => c68 ((lg_cmp_eq _ _).mpr z)) ?_
            refine g_topl (y := lN (x % y)) (pk_lRem (by omega) (by omega) (by omega)) ?_
            refine lv_lstore (lv' := [(11, .long (lN (x % y))), (0, .ref mo), (1, .int (nI N)), (2, .int q0), (3, .long (lN (2 ^ (N - D) - 1))), (5, .long (lN (2 ^ N - 1))), (7, .long (lN x)), (9, .long (lN y))]) hx hb d_mo_alias_76 hl (by decide) rfl (fun ls hl => ?_)
            refine lv_lload hx hb d_mo_alias_78 (lv_at hl 7 rfl) ?_
            refine lv_lstore (lv' := [(7, .long (lN y)), (11, .long (lN (x % y))), (0, .ref mo), (1, .int (nI N)), (2, .int q0), (3, .long (lN (2 ^ (N - D) - 1))), (5, .long (lN (2 ^ N - 1))), (9, .long (lN y))]) hx hb d_mo_alias_80 hl (by decide) rfl (fun ls hl => ?_)
            refine lv_lload hx hb d_mo_alias_82 (lv_at hl 1 rfl) ?_
            refine lv_lstore (lv' := [(9, .long (lN (x % y))), (7, .long (lN y)), (11, .long (lN (x % y))), (0, .ref mo), (1, .int (nI N)), (2, .int q0), (3, .long (lN (2 ^ (N - D) - 1))), (5, .long (lN (2 ^ N - 1)))]) hx hb d_mo_alias_84 hl (by decide) rfl (fun ls hl => ?_)
            refine lv_goto (tgt := 64) hx hb d_mo_alias_86 (by decide) ?_
            exact ih64 (y, (x % y)) _ ⟨⟨hy0, by omega, Nat.lt_trans (Nat.mod_lt _ hy0) hy1, by rw [← hgc, Nat.gcd_comm x y, Nat.gcd_rec y x, Nat.gcd_comm]⟩, lv_sub hl [3, 4, 5, 6, 7, 1, 0] rfl⟩ (Nat.mod_lt _ hy0)
        · refine lv_iconst (v := 1) hx hb d_mo_alias_21 (by decide) ?_
          refine lv_goto (tgt := 26) hx hb d_mo_alias_22 (by decide) ?_
          refine g_put S hE.1 hG hmo rfl in_mo ty_mo tyok_mo nm_mo 0 (by decide) tw_491 (fun _ h9 => h9) rfl (ty := .int) (by decide +kernel) rfl rfl (Nat.le_of_ble_eq_true rfl) d_mo_alias_26 (fun H locs hG => ?_)
          have hG : gS (gA G s.heap.size) s.heap Z.1 cls (gup G mo (.inr (4, [.int 1, .int (nI C), .int (nI E), .ref u1, .ref u2, .ref u3, .ref u4, .ref u5, .int (nI M), .int (nI D), .ref u6, .int fl, .ref u7]))) H locs := hG
          generalize eG26 : gup G mo (.inr (4, [.int 1, .int (nI C), .int (nI E), .ref u1, .ref u2, .ref u3, .ref u4, .ref u5, .int (nI M), .int (nI D), .ref u6, .int fl, .ref u7])) = G26 at hG
          have f26_u1 : G26 u1 = some (.inl (Z.2 1, 768, .inl cf)) := by rw [← eG26]; exact gup_keep hmo hc1 (by simp)
          have f26_u2 : G26 u2 = some (.inl (Z.2 2, 768, .inl mf)) := by rw [← eG26]; exact gup_keep hmo hc2 (by simp)
          have f26_u3 : G26 u3 = some (.inl (Z.2 2, 744, .inl ff)) := by rw [← eG26]; exact gup_keep hmo hc3 (by simp)
          have f26_u4 : G26 u4 = some (.inl (Z.2 2, 24, .inl gf)) := by rw [← eG26]; exact gup_keep hmo hc4 (by simp)
          have f26_u5 : G26 u5 = some (.inl (Z.2 1, 24, .inl sf)) := by rw [← eG26]; exact gup_keep hmo hc5 (by simp)
          have f26_u6 : G26 u6 = some (.inl (Z.2 2, 16, .inl tf)) := by rw [← eG26]; exact gup_keep hmo hc6 (by simp)
          have f26_u7 : G26 u7 = some (.inl (Z.2 1, 16, .inl bf)) := by rw [← eG26]; exact gup_keep hmo hc7 (by simp)
          have f26 : G26 mo = some (.inr (4, [.int 1, .int (nI C), .int (nI E), .ref u1, .ref u2, .ref u3, .ref u4, .ref u5, .int (nI M), .int (nI D), .ref u6, .int fl, .ref u7])) := by rw [← eG26]; exact gup_self _ _ _
          have hK : gKe (moI mo u1 u2 u3 u4 u5 u6 u7) G G26 := by rw [← eG26]; exact hK.up (by simp [moI])
          refine lv_aload_n hx hb d_mo_alias_29 rfl (lv_at hl 0 rfl) ?_
          refine g_get S hE.1 hG.1 f26 rfl in_mo 0 (by decide) tw_491 (fun _ h9 => h9) rfl d_mo_alias_30 ?_
          refine lv_if_le (tgt := 38) hx hb d_mo_alias_33 (by decide) (fun c33 => absurd c33 (by decide)) (fun c33 => ?_)
          refine lv_lconst (v := 0) hx hb d_mo_alias_36 (by decide) ?_
          refine W.widen (k := 0) (n := 0) (Nat.le_of_ble_eq_true rfl) (Nat.le_of_ble_eq_true rfl) ?_
          exact (W.lret hx hb hr (fun t9 ht9 hW9 => ⟨⟨_, _, rfl, ⟨hK, Or.inl ⟨(by rintro ⟨⟨N, h1, h2, rfl⟩, h3⟩; first | exact (rng60' h1 h2).1 c3 | exact absurd c9 (Int32.not_lt.mpr (rng60' h1 h2).2) | (rcases h3 with rfl | rfl <;> exact absurd c13 (by decide)) | (rcases h3 with rfl | rfl <;> exact absurd c18 (by decide))), ⟨_, _, _, _, _, _, _, ⟨f26, f26_u1, f26_u2, f26_u3, f26_u4, f26_u5, f26_u6, f26_u7, n12, n45, n67⟩, hR, hT, hC, hE8, hfl⟩⟩⟩, by rw [ht9]; exact hG.1, hG.2.1⟩, hG.2.2.1.F ht9⟩) hG.2.2.1.2.2 d_mo_alias_37)

set_option maxHeartbeats 600000 in
set_option maxRecDepth 100000 in
theorem c_mo_seed (l : Launch) (Z : gZ) (G : gh) (sz : Nat) (mo : Nat) {u1 u2 u3 u4 u5 u6 u7 : Nat} {th : Int32} {C E M D : Nat} {fl tp : Int32} {pt : Nat → Option Nat} {pd : Nat → Pat} (hQ : moQ Z G mo u1 u2 u3 u4 u5 u6 u7 th C E M D fl tp pt pd) (n : Int32) : Met l y_mo_seed (wd_mo_seed :: Gall) ({ frames := 2, cells := 0, slots := 0, locals := 49 }) (va_Pc [.ref mo, .int n] (gPw Z G sz)) (va_Qi (fun (r : Int32) (G9 : gh) => gKe (moI mo u1 u2 u3 u4 u5 u6 u7) G G9 ∧ (((∀ j, ¬ okP pt pd n j) ∧ moQ Z G9 mo u1 u2 u3 u4 u5 u6 u7 1 C E M D fl tp pt pd) ∨ (∃ j, okP pt pd n j ∧ moQ Z G9 mo u1 u2 u3 u4 u5 u6 u7 0 C E M D fl tp pt (va_up pd j (qsd (pd j) (lsC (nI D) tp C E D (pca (pd j)) (pva (pd j))))) ∧ r = if lsC (nI D) tp C E D (pca (pd j)) (pva (pd j)) = -1 then 1 else 0))) (gW Z G sz) (gA G sz)) 0 0 (gA G sz) := by
  refine Met.ofW (cc := b_mo_seed) (maxL := 3) (ret := (some .int)) (by decide) rfl ?_
  intro p e s m args below meth c s₁ B hml hv
  obtain ⟨rfl, hsz, hG, hE⟩ := hv
  subst hsz
  have hx := B.exec
  have hb := B.bytes
  have hr := B.returns
  have hlocks := B.notSynchronized
  have S : CallFix p m c b_mo_seed 3 s _ Gall "PackSeedsModel" := ⟨hx, hb, hml, findClass_of_methodNamed B.named, fun w hw => atoms_spec (ws := wd_mo_seed :: Gall) B.pre w (List.mem_cons_of_mem _ hw)⟩
  have hG : gS (gA G s.heap.size) s.heap Z.1 cls G s.heap [] := gS.start hG
  have hl := lv_entry ([.ref mo, .int n]) (n := 3) (Nat.le_of_ble_eq_true rfl)
  rw [lg_entry_eq]
  generalize (lg_sl ([.ref mo, .int n]) ++ List.replicate (3 - (lg_sl ([.ref mo, .int n])).length) Slot.unset).toArray = ls at hl ⊢
  have hl : lv_has ls 3 [(0, .ref mo), (1, .int n)] := hl
  have hK : gKe (moI mo u1 u2 u3 u4 u5 u6 u7) G G := gKe.rf
  obtain ⟨cf, mf, ff, gf, sf, tf, bf, hP, hR, hT, hC, hE8, hfl⟩ := hQ
  have hP0 := hP
  obtain ⟨hmo, hc1, hc2, hc3, hc4, hc5, hc6, hc7, n12, n45, n67⟩ := hP
  have hM24 := hR.1
  have hD1 := hT.1
  have hD16 := hT.2.1
  have hN : 2 ≤ 2 ^ D ∧ 2 ^ D ≤ 65536 := by
    have h1 : 2 ^ 1 ≤ 2 ^ D := Nat.pow_le_pow_right (by omega) hD1
    have h2 : 2 ^ D ≤ 2 ^ 16 := Nat.pow_le_pow_right (by omega) hD16
    omega
  refine lv_aload_n hx hb d_mo_seed_0 rfl (lv_at hl 0 rfl) ?_
  refine lv_aload_n hx hb d_mo_seed_1 rfl (lv_at hl 0 rfl) ?_
  refine lv_iload_n hx hb d_mo_seed_2 rfl (lv_at hl 1 rfl) ?_
  refine g_reti (g_runV (As := [.int n]) (rest := [.ref mo]) S lk_mo_48 k_mo_is (c_mo_is l Z G mo hP0 hR n) ⟨rfl, rfl⟩ ⟨Nat.le_of_ble_eq_true rfl, Nat.le_of_ble_eq_true rfl⟩ (gPreV hG.1 hE hmo rfl) rfl hl.1 rfl (Nat.le_of_ble_eq_true rfl) d_mo_seed_3 ⟨Nat.le_of_ble_eq_true rfl, Nat.le_of_ble_eq_true rfl⟩) (fun r3 h3 => ?_)
  refine lv_if_eq (tgt := 13) hx hb d_mo_seed_6 (by decide) (fun c6 => ?_) (fun c6 => ?_)
  · refine lv_iconst (v := 1) hx hb d_mo_seed_13 (by decide) ?_
    refine g_put S hE.1 hG hmo rfl in_mo ty_mo tyok_mo nm_mo 0 (by decide) tw_491 (fun _ h9 => h9) rfl (ty := .int) (by decide +kernel) rfl rfl (Nat.le_of_ble_eq_true rfl) d_mo_seed_14 (fun H locs hG => ?_)
    have hG : gS (gA G s.heap.size) s.heap Z.1 cls (gup G mo (.inr (4, [.int 1, .int (nI C), .int (nI E), .ref u1, .ref u2, .ref u3, .ref u4, .ref u5, .int (nI M), .int (nI D), .ref u6, .int fl, .ref u7]))) H locs := hG
    generalize eG14 : gup G mo (.inr (4, [.int 1, .int (nI C), .int (nI E), .ref u1, .ref u2, .ref u3, .ref u4, .ref u5, .int (nI M), .int (nI D), .ref u6, .int fl, .ref u7])) = G14 at hG
    have f14_u1 : G14 u1 = some (.inl (Z.2 1, 768, .inl cf)) := by rw [← eG14]; exact gup_keep hmo hc1 (by simp)
    have f14_u2 : G14 u2 = some (.inl (Z.2 2, 768, .inl mf)) := by rw [← eG14]; exact gup_keep hmo hc2 (by simp)
    have f14_u3 : G14 u3 = some (.inl (Z.2 2, 744, .inl ff)) := by rw [← eG14]; exact gup_keep hmo hc3 (by simp)
    have f14_u4 : G14 u4 = some (.inl (Z.2 2, 24, .inl gf)) := by rw [← eG14]; exact gup_keep hmo hc4 (by simp)
    have f14_u5 : G14 u5 = some (.inl (Z.2 1, 24, .inl sf)) := by rw [← eG14]; exact gup_keep hmo hc5 (by simp)
    have f14_u6 : G14 u6 = some (.inl (Z.2 2, 16, .inl tf)) := by rw [← eG14]; exact gup_keep hmo hc6 (by simp)
    have f14_u7 : G14 u7 = some (.inl (Z.2 1, 16, .inl bf)) := by rw [← eG14]; exact gup_keep hmo hc7 (by simp)
    have f14 : G14 mo = some (.inr (4, [.int 1, .int (nI C), .int (nI E), .ref u1, .ref u2, .ref u3, .ref u4, .ref u5, .int (nI M), .int (nI D), .ref u6, .int fl, .ref u7])) := by rw [← eG14]; exact gup_self _ _ _
    have hK : gKe (moI mo u1 u2 u3 u4 u5 u6 u7) G G14 := by rw [← eG14]; exact hK.up (by simp [moI])
    refine lv_aload_n hx hb d_mo_seed_17 rfl (lv_at hl 0 rfl) ?_
    refine g_get S hE.1 hG.1 f14 rfl in_mo 0 (by decide) tw_491 (fun _ h9 => h9) rfl d_mo_seed_18 ?_
    refine lv_if_le (tgt := 26) hx hb d_mo_seed_21 (by decide) (fun c21 => absurd c21 (by decide)) (fun c21 => ?_)
    refine lv_iconst (v := 0) hx hb d_mo_seed_24 (by decide) ?_
    refine W.widen (k := 0) (n := 0) (Nat.le_of_ble_eq_true rfl) (Nat.le_of_ble_eq_true rfl) ?_
    exact (W.iret hx hb hr (fun t9 ht9 hW9 => ⟨⟨_, _, rfl, ⟨hK, Or.inl ⟨isNo h3 c6, ⟨_, _, _, _, _, _, _, ⟨f14, f14_u1, f14_u2, f14_u3, f14_u4, f14_u5, f14_u6, f14_u7, n12, n45, n67⟩, hR, hT, hC, hE8, hfl⟩⟩⟩, by rw [ht9]; exact hG.1, hG.2.1⟩, hG.2.2.1.F ht9⟩) hG.2.2.1.2.2 d_mo_seed_25)
  · refine lv_iconst (v := 0) hx hb d_mo_seed_9 (by decide) ?_
    refine lv_goto (tgt := 14) hx hb d_mo_seed_10 (by decide) ?_
    refine g_put S hE.1 hG hmo rfl in_mo ty_mo tyok_mo nm_mo 0 (by decide) tw_491 (fun _ h9 => h9) rfl (ty := .int) (by decide +kernel) rfl rfl (Nat.le_of_ble_eq_true rfl) d_mo_seed_14 (fun H locs hG => ?_)
    have hG : gS (gA G s.heap.size) s.heap Z.1 cls (gup G mo (.inr (4, [.int 0, .int (nI C), .int (nI E), .ref u1, .ref u2, .ref u3, .ref u4, .ref u5, .int (nI M), .int (nI D), .ref u6, .int fl, .ref u7]))) H locs := hG
    generalize eG14 : gup G mo (.inr (4, [.int 0, .int (nI C), .int (nI E), .ref u1, .ref u2, .ref u3, .ref u4, .ref u5, .int (nI M), .int (nI D), .ref u6, .int fl, .ref u7])) = G14 at hG
    have f14_u1 : G14 u1 = some (.inl (Z.2 1, 768, .inl cf)) := by rw [← eG14]; exact gup_keep hmo hc1 (by simp)
    have f14_u2 : G14 u2 = some (.inl (Z.2 2, 768, .inl mf)) := by rw [← eG14]; exact gup_keep hmo hc2 (by simp)
    have f14_u3 : G14 u3 = some (.inl (Z.2 2, 744, .inl ff)) := by rw [← eG14]; exact gup_keep hmo hc3 (by simp)
    have f14_u4 : G14 u4 = some (.inl (Z.2 2, 24, .inl gf)) := by rw [← eG14]; exact gup_keep hmo hc4 (by simp)
    have f14_u5 : G14 u5 = some (.inl (Z.2 1, 24, .inl sf)) := by rw [← eG14]; exact gup_keep hmo hc5 (by simp)
    have f14_u6 : G14 u6 = some (.inl (Z.2 2, 16, .inl tf)) := by rw [← eG14]; exact gup_keep hmo hc6 (by simp)
    have f14_u7 : G14 u7 = some (.inl (Z.2 1, 16, .inl bf)) := by rw [← eG14]; exact gup_keep hmo hc7 (by simp)
    have f14 : G14 mo = some (.inr (4, [.int 0, .int (nI C), .int (nI E), .ref u1, .ref u2, .ref u3, .ref u4, .ref u5, .int (nI M), .int (nI D), .ref u6, .int fl, .ref u7])) := by rw [← eG14]; exact gup_self _ _ _
    have hK : gKe (moI mo u1 u2 u3 u4 u5 u6 u7) G G14 := by rw [← eG14]; exact hK.up (by simp [moI])
    refine lv_aload_n hx hb d_mo_seed_17 rfl (lv_at hl 0 rfl) ?_
    refine g_get S hE.1 hG.1 f14 rfl in_mo 0 (by decide) tw_491 (fun _ h9 => h9) rfl d_mo_seed_18 ?_
    refine lv_if_le (tgt := 26) hx hb d_mo_seed_21 (by decide) (fun c21 => ?_) (fun c21 => absurd c21 (by decide))
    obtain ⟨j, hj⟩ := isOk h3 c6
    obtain ⟨ej, hjM, hgj⟩ := hR.ok.mp hj
    have hj0 := hj
    subst ej
    refine lv_aload_n hx hb d_mo_seed_26 rfl (lv_at hl 0 rfl) ?_
    refine g_get S hE.1 hG.1 f14 rfl in_mo 7 (by decide) tw_498 (fun _ h9 => h9) rfl d_mo_seed_27 ?_
    refine lv_iload_n hx hb d_mo_seed_30 rfl (lv_at hl 1 rfl) ?_
    refine lv_iconst (v := (-1)) hx hb d_mo_seed_31 (by decide) ?_
    refine g_iast S hE.1 hG f14_u5 1 rfl (vp_in_nI (by omega) (by omega)) d_mo_seed_32 (fun H locs hG => ?_)
    rw [nI_clamp (show j < 2 ^ 31 by omega)] at hG
    have hG : gS (gA G s.heap.size) s.heap Z.1 cls (gup G14 u5 (.inl (Z.2 1, 24, .inl (upd sf j (-1))))) H locs := hG
    generalize eG32 : gup G14 u5 (.inl (Z.2 1, 24, .inl (upd sf j (-1)))) = G32 at hG
    have f32_u1 : G32 u1 = some (.inl (Z.2 1, 768, .inl cf)) := by rw [← eG32]; exact gup_keep f14_u5 f14_u1 (by simp)
    have f32_u2 : G32 u2 = some (.inl (Z.2 2, 768, .inl mf)) := by rw [← eG32]; exact gup_keep f14_u5 f14_u2 (by simp)
    have f32_u3 : G32 u3 = some (.inl (Z.2 2, 744, .inl ff)) := by rw [← eG32]; exact gup_keep f14_u5 f14_u3 (by simp)
    have f32_u4 : G32 u4 = some (.inl (Z.2 2, 24, .inl gf)) := by rw [← eG32]; exact (gup_ne _ _ n45).trans f14_u4
    have f32_u6 : G32 u6 = some (.inl (Z.2 2, 16, .inl tf)) := by rw [← eG32]; exact gup_keep f14_u5 f14_u6 (by simp)
    have f32_u7 : G32 u7 = some (.inl (Z.2 1, 16, .inl bf)) := by rw [← eG32]; exact gup_keep f14_u5 f14_u7 (by simp)
    have f32_mo : G32 mo = some (.inr (4, [.int 0, .int (nI C), .int (nI E), .ref u1, .ref u2, .ref u3, .ref u4, .ref u5, .int (nI M), .int (nI D), .ref u6, .int fl, .ref u7])) := by rw [← eG32]; exact gup_keep f14_u5 f14 (by simp)
    have f32 : G32 u5 = some (.inl (Z.2 1, 24, .inl (upd sf j (-1)))) := by rw [← eG32]; exact gup_self _ _ _
    have hK : gKe (moI mo u1 u2 u3 u4 u5 u6 u7) G G32 := by rw [← eG32]; exact hK.up (by simp [moI])
    refine lv_iconst (v := nI 0) hx hb d_mo_seed_33 (by decide) ?_
    refine lv_istore_n (lv' := [(2, .int (nI 0)), (0, .ref mo), (1, .int (nI j))]) hx hb d_mo_seed_34 rfl hl (by decide) rfl (fun ls hl => ?_)
    refine g_indH (V := Nat × Int32 × (Nat → Int32) × gh) (fun (s9, v9, sx, Gx) H locs ls => ((s9 ≤ 2 ^ D ∧ sx = upd sf j v9 ∧ sdI D tp C E (pd j) s9 v9) ∧ gKe (moI mo u1 u2 u3 u4 u5 u6 u7) G Gx ∧ moP Z Gx mo u1 u2 u3 u4 u5 u6 u7 0 C E M D fl cf mf ff gf sx tf bf) ∧ gS (gA G s.heap.size) s.heap Z.1 cls Gx H locs ∧ lv_has ls 3 [(0, .ref mo), (1, .int (nI j)), (2, .int (nI s9))]) (fun (s9, v9, sx, Gx) => 2 ^ D - s9) ?_ (0, -1, upd sf j (-1), G32) _ ⟨⟨⟨Nat.zero_le _, rfl, Or.inl ⟨rfl, fun u hu => by omega⟩⟩, hK, ⟨f32_mo, f32_u1, f32_u2, f32_u3, f32_u4, f32, f32_u6, f32_u7, n12, n45, n67⟩⟩, hG, lv_sub hl [1, 2, 0] rfl⟩
    intro v H locs ls hI ih35
    obtain ⟨s9, v9, sx, Gx⟩ := v
    obtain ⟨⟨⟨hs9, hsx, hsd⟩, hK, hP35⟩, hG, hl⟩ := hI
    have hQ35 := hP35
    obtain ⟨hmo35, hc135, hc235, hc335, hc435, hc535, hc635, hc735, -⟩ := hP35
    have hRv : Sim C E M pt (va_up pd j (qsd (pd j) v9)) cf mf ff gf sx := by rw [hsx]; exact hR.sd hjM hgj v9
    have hsj : sx j = v9 := by rw [hsx]; exact pk_us
    refine lv_iload_n hx hb d_mo_seed_35 rfl (lv_at hl 2 rfl) ?_
    refine lv_iconst (v := 1) hx hb d_mo_seed_36 (by decide) ?_
    refine lv_aload_n hx hb d_mo_seed_37 rfl (lv_at hl 0 rfl) ?_
    refine g_get S hE.1 hG.1 hmo35 rfl in_mo 9 (by decide) tw_500 (fun _ h9 => h9) rfl d_mo_seed_38 ?_
    refine lv_ishl hx hb d_mo_seed_41 ?_
    refine g_topi (y := nI (2 ^ D)) (shl1 D (by omega)) ?_
    refine g_ge (tgt := 81) hx hb d_mo_seed_42 (by decide) (by omega) (by omega) (fun c42 => ?_) (fun c42 => ?_)
    · refine lv_aload_n hx hb d_mo_seed_81 rfl (lv_at hl 0 rfl) ?_
      refine g_get S hE.1 hG.1 hmo35 rfl in_mo 7 (by decide) tw_498 (fun _ h9 => h9) rfl d_mo_seed_82 ?_
      refine lv_iload_n hx hb d_mo_seed_85 rfl (lv_at hl 1 rfl) ?_
      refine g_iald S hE.1 hG.1 hc535 1 rfl (vp_in_nI (by omega) (by omega)) d_mo_seed_86 ?_
      refine g_topi (congrArg sx (nI_clamp (show j < 2 ^ 31 by omega))) ?_
      refine lv_iconst (v := (-1)) hx hb d_mo_seed_87 (by decide) ?_
      refine lv_icmp_ne (tgt := 95) hx hb d_mo_seed_88 (by decide) (fun c88 => ?_) (fun c88 => ?_)
      · refine lv_iconst (v := 0) hx hb d_mo_seed_95 (by decide) ?_
        refine W.widen (k := 0) (n := 0) (Nat.le_of_ble_eq_true rfl) (Nat.le_of_ble_eq_true rfl) ?_
        exact (W.iret hx hb hr (fun t9 ht9 hW9 => ⟨⟨_, _, rfl, ⟨hK, Or.inr ⟨j, hj0, (by
            have hls : lsC (nI D) tp C E D (pca (pd j)) (pva (pd j)) = v9 := sd_fin hD1 hD16 hC hE8 hs9 hsd (by first | exact Or.inl c42 | exact Or.inr (by rw [← hsj]; exact c52))
            rw [hls]; exact ⟨⟨_, _, _, _, _, _, _, ⟨hmo35, hc135, hc235, hc335, hc435, hc535, hc635, hc735, n12, n45, n67⟩, hRv, hT, hC, hE8, hfl⟩, by rw [hsj] at c88; simp [c88]⟩)⟩⟩, by rw [ht9]; exact hG.1, hG.2.1⟩, hG.2.2.1.F ht9⟩) hG.2.2.1.2.2 d_mo_seed_96)
      · refine lv_iconst (v := 1) hx hb d_mo_seed_91 (by decide) ?_
        refine lv_goto (tgt := 96) hx hb d_mo_seed_92 (by decide) ?_
        refine W.widen (k := 0) (n := 0) (Nat.le_of_ble_eq_true rfl) (Nat.le_of_ble_eq_true rfl) ?_
        exact (W.iret hx hb hr (fun t9 ht9 hW9 => ⟨⟨_, _, rfl, ⟨hK, Or.inr ⟨j, hj0, (by
            have hls : lsC (nI D) tp C E D (pca (pd j)) (pva (pd j)) = v9 := sd_fin hD1 hD16 hC hE8 hs9 hsd (by first | exact Or.inl c42 | exact Or.inr (by rw [← hsj]; exact c52))
            rw [hls]; exact ⟨⟨_, _, _, _, _, _, _, ⟨hmo35, hc135, hc235, hc335, hc435, hc535, hc635, hc735, n12, n45, n67⟩, hRv, hT, hC, hE8, hfl⟩, by rw [hsj] at c88; simp [c88]⟩)⟩⟩, by rw [ht9]; exact hG.1, hG.2.1⟩, hG.2.2.1.F ht9⟩) hG.2.2.1.2.2 d_mo_seed_96)
    · refine lv_aload_n hx hb d_mo_seed_45 rfl (lv_at hl 0 rfl) ?_
      refine g_get S hE.1 hG.1 hmo35 rfl in_mo 7 (by decide) tw_498 (fun _ h9 => h9) rfl d_mo_seed_46 ?_
      refine lv_iload_n hx hb d_mo_seed_49 rfl (lv_at hl 1 rfl) ?_
      refine g_iald S hE.1 hG.1 hc535 1 rfl (vp_in_nI (by omega) (by omega)) d_mo_seed_50 ?_
      refine g_topi (congrArg sx (nI_clamp (show j < 2 ^ 31 by omega))) ?_
      refine lv_iconst (v := (-1)) hx hb d_mo_seed_51 (by decide) ?_
      refine lv_icmp_ne (tgt := 81) hx hb d_mo_seed_52 (by decide) (fun c52 => ?_) (fun c52 => ?_)
      · refine lv_aload_n hx hb d_mo_seed_81 rfl (lv_at hl 0 rfl) ?_
        refine g_get S hE.1 hG.1 hmo35 rfl in_mo 7 (by decide) tw_498 (fun _ h9 => h9) rfl d_mo_seed_82 ?_
        refine lv_iload_n hx hb d_mo_seed_85 rfl (lv_at hl 1 rfl) ?_
        refine g_iald S hE.1 hG.1 hc535 1 rfl (vp_in_nI (by omega) (by omega)) d_mo_seed_86 ?_
        refine g_topi (congrArg sx (nI_clamp (show j < 2 ^ 31 by omega))) ?_
        refine lv_iconst (v := (-1)) hx hb d_mo_seed_87 (by decide) ?_
        refine lv_icmp_ne (tgt := 95) hx hb d_mo_seed_88 (by decide) (fun c88 => ?_) (fun c88 => ?_)
        · refine lv_iconst (v := 0) hx hb d_mo_seed_95 (by decide) ?_
          refine W.widen (k := 0) (n := 0) (Nat.le_of_ble_eq_true rfl) (Nat.le_of_ble_eq_true rfl) ?_
          exact (W.iret hx hb hr (fun t9 ht9 hW9 => ⟨⟨_, _, rfl, ⟨hK, Or.inr ⟨j, hj0, (by
              have hls : lsC (nI D) tp C E D (pca (pd j)) (pva (pd j)) = v9 := sd_fin hD1 hD16 hC hE8 hs9 hsd (by first | exact Or.inl c42 | exact Or.inr (by rw [← hsj]; exact c52))
              rw [hls]; exact ⟨⟨_, _, _, _, _, _, _, ⟨hmo35, hc135, hc235, hc335, hc435, hc535, hc635, hc735, n12, n45, n67⟩, hRv, hT, hC, hE8, hfl⟩, by rw [hsj] at c88; simp [c88]⟩)⟩⟩, by rw [ht9]; exact hG.1, hG.2.1⟩, hG.2.2.1.F ht9⟩) hG.2.2.1.2.2 d_mo_seed_96)
        · refine lv_iconst (v := 1) hx hb d_mo_seed_91 (by decide) ?_
          refine lv_goto (tgt := 96) hx hb d_mo_seed_92 (by decide) ?_
          refine W.widen (k := 0) (n := 0) (Nat.le_of_ble_eq_true rfl) (Nat.le_of_ble_eq_true rfl) ?_
          exact (W.iret hx hb hr (fun t9 ht9 hW9 => ⟨⟨_, _, rfl, ⟨hK, Or.inr ⟨j, hj0, (by
              have hls : lsC (nI D) tp C E D (pca (pd j)) (pva (pd j)) = v9 := sd_fin hD1 hD16 hC hE8 hs9 hsd (by first | exact Or.inl c42 | exact Or.inr (by rw [← hsj]; exact c52))
              rw [hls]; exact ⟨⟨_, _, _, _, _, _, _, ⟨hmo35, hc135, hc235, hc335, hc435, hc535, hc635, hc735, n12, n45, n67⟩, hRv, hT, hC, hE8, hfl⟩, by rw [hsj] at c88; simp [c88]⟩)⟩⟩, by rw [ht9]; exact hG.1, hG.2.1⟩, hG.2.2.1.F ht9⟩) hG.2.2.1.2.2 d_mo_seed_96)
      · refine lv_aload_n hx hb d_mo_seed_55 rfl (lv_at hl 0 rfl) ?_
        refine g_get S hE.1 hG.1 hmo35 rfl in_mo 7 (by decide) tw_498 (fun _ h9 => h9) rfl d_mo_seed_56 ?_
        refine lv_iload_n hx hb d_mo_seed_59 rfl (lv_at hl 1 rfl) ?_
        refine lv_aload_n hx hb d_mo_seed_60 rfl (lv_at hl 0 rfl) ?_
        refine lv_iload_n hx hb d_mo_seed_61 rfl (lv_at hl 2 rfl) ?_
        refine lv_iload_n hx hb d_mo_seed_62 rfl (lv_at hl 1 rfl) ?_
        refine g_reti (g_runV (As := [.int (nI s9), .int (nI j)]) (rest := [.int (nI j), .ref u5]) S lk_mo_77 k_mo_makes (c_mo_makes l Z Gx mo ⟨hmo35, hc135, hc235, hc335, hc435, hc535, hc635, hc735, n12, n45, n67⟩ hRv hT hC hE8 (nI s9) j hjM hgj) ⟨rfl, rfl⟩ ⟨Nat.le_of_ble_eq_true rfl, Nat.le_of_ble_eq_true rfl⟩ (gPreV hG.1 hE hmo35 rfl) rfl hl.1 rfl (Nat.le_of_ble_eq_true rfl) d_mo_seed_63 ⟨Nat.le_of_ble_eq_true rfl, Nat.le_of_ble_eq_true rfl⟩) (fun r63 h63 => ?_)
        refine lv_if_eq (tgt := 73) hx hb d_mo_seed_66 (by decide) (fun c66 => ?_) (fun c66 => ?_)
        · refine lv_iconst (v := (-1)) hx hb d_mo_seed_73 (by decide) ?_
          refine g_iast S hE.1 hG hc535 1 rfl (vp_in_nI (by omega) (by omega)) d_mo_seed_74 (fun H locs hG => ?_)
          rw [nI_clamp (show j < 2 ^ 31 by omega)] at hG
          have hG : gS (gA G s.heap.size) s.heap Z.1 cls (gup Gx u5 (.inl (Z.2 1, 24, .inl (upd sx j (-1))))) H locs := hG
          generalize eG74 : gup Gx u5 (.inl (Z.2 1, 24, .inl (upd sx j (-1)))) = G74 at hG
          have f74_mo : G74 mo = some (.inr (4, [.int 0, .int (nI C), .int (nI E), .ref u1, .ref u2, .ref u3, .ref u4, .ref u5, .int (nI M), .int (nI D), .ref u6, .int fl, .ref u7])) := by rw [← eG74]; exact gup_keep hc535 hmo35 (by simp)
          have f74_u1 : G74 u1 = some (.inl (Z.2 1, 768, .inl cf)) := by rw [← eG74]; exact gup_keep hc535 hc135 (by simp)
          have f74_u2 : G74 u2 = some (.inl (Z.2 2, 768, .inl mf)) := by rw [← eG74]; exact gup_keep hc535 hc235 (by simp)
          have f74_u3 : G74 u3 = some (.inl (Z.2 2, 744, .inl ff)) := by rw [← eG74]; exact gup_keep hc535 hc335 (by simp)
          have f74_u4 : G74 u4 = some (.inl (Z.2 2, 24, .inl gf)) := by rw [← eG74]; exact (gup_ne _ _ n45).trans hc435
          have f74_u6 : G74 u6 = some (.inl (Z.2 2, 16, .inl tf)) := by rw [← eG74]; exact gup_keep hc535 hc635 (by simp)
          have f74_u7 : G74 u7 = some (.inl (Z.2 1, 16, .inl bf)) := by rw [← eG74]; exact gup_keep hc535 hc735 (by simp)
          have f74 : G74 u5 = some (.inl (Z.2 1, 24, .inl (upd sx j (-1)))) := by rw [← eG74]; exact gup_self _ _ _
          have hK : gKe (moI mo u1 u2 u3 u4 u5 u6 u7) G G74 := by rw [← eG74]; exact hK.up (by simp [moI])
          refine lv_iinc (v := nI (s9 + 1)) (lv' := [(2, .int (nI (s9 + 1))), (0, .ref mo), (1, .int (nI j))]) hx hb d_mo_seed_75 hl (k := 2) rfl (show nI s9 + 1 = _ from nI_1 s9) (by decide) rfl (fun ls hl => ?_)
          refine lv_goto (tgt := 35) hx hb d_mo_seed_78 (by decide) ?_
          exact ih35 ((s9 + 1), (-1), upd sx j (-1), G74) _ _ _ ⟨⟨⟨by omega, by rw [hsx, upd_upd], by
              rw [va_up_self] at h63
              have h9 : v9 = -1 := by rw [← hsj]; exact c52
              rw [h9] at hsd
              first | exact sd_hit (by omega) hsd (isOk h63 c66) | exact sd_miss (by omega) hsd (isNo h63 c66)⟩, hK, ⟨f74_mo, f74_u1, f74_u2, f74_u3, f74_u4, f74, f74_u6, f74_u7, n12, n45, n67⟩⟩, hG, lv_sub hl [1, 2, 0] rfl⟩ (by first | omega | (simp only []; omega))
        · refine lv_iload_n hx hb d_mo_seed_69 rfl (lv_at hl 2 rfl) ?_
          refine lv_goto (tgt := 74) hx hb d_mo_seed_70 (by decide) ?_
          refine g_iast S hE.1 hG hc535 1 rfl (vp_in_nI (by omega) (by omega)) d_mo_seed_74 (fun H locs hG => ?_)
          rw [nI_clamp (show j < 2 ^ 31 by omega)] at hG
          have hG : gS (gA G s.heap.size) s.heap Z.1 cls (gup Gx u5 (.inl (Z.2 1, 24, .inl (upd sx j (nI s9))))) H locs := hG
          generalize eG74 : gup Gx u5 (.inl (Z.2 1, 24, .inl (upd sx j (nI s9)))) = G74 at hG
          have f74_mo : G74 mo = some (.inr (4, [.int 0, .int (nI C), .int (nI E), .ref u1, .ref u2, .ref u3, .ref u4, .ref u5, .int (nI M), .int (nI D), .ref u6, .int fl, .ref u7])) := by rw [← eG74]; exact gup_keep hc535 hmo35 (by simp)
          have f74_u1 : G74 u1 = some (.inl (Z.2 1, 768, .inl cf)) := by rw [← eG74]; exact gup_keep hc535 hc135 (by simp)
          have f74_u2 : G74 u2 = some (.inl (Z.2 2, 768, .inl mf)) := by rw [← eG74]; exact gup_keep hc535 hc235 (by simp)
          have f74_u3 : G74 u3 = some (.inl (Z.2 2, 744, .inl ff)) := by rw [← eG74]; exact gup_keep hc535 hc335 (by simp)
          have f74_u4 : G74 u4 = some (.inl (Z.2 2, 24, .inl gf)) := by rw [← eG74]; exact (gup_ne _ _ n45).trans hc435
          have f74_u6 : G74 u6 = some (.inl (Z.2 2, 16, .inl tf)) := by rw [← eG74]; exact gup_keep hc535 hc635 (by simp)
          have f74_u7 : G74 u7 = some (.inl (Z.2 1, 16, .inl bf)) := by rw [← eG74]; exact gup_keep hc535 hc735 (by simp)
          have f74 : G74 u5 = some (.inl (Z.2 1, 24, .inl (upd sx j (nI s9)))) := by rw [← eG74]; exact gup_self _ _ _
          have hK : gKe (moI mo u1 u2 u3 u4 u5 u6 u7) G G74 := by rw [← eG74]; exact hK.up (by simp [moI])
          refine lv_iinc (v := nI (s9 + 1)) (lv' := [(2, .int (nI (s9 + 1))), (0, .ref mo), (1, .int (nI j))]) hx hb d_mo_seed_75 hl (k := 2) rfl (show nI s9 + 1 = _ from nI_1 s9) (by decide) rfl (fun ls hl => ?_)
          refine lv_goto (tgt := 35) hx hb d_mo_seed_78 (by decide) ?_
          exact ih35 ((s9 + 1), (nI s9), upd sx j (nI s9), G74) _ _ _ ⟨⟨⟨by omega, by rw [hsx, upd_upd], by
              rw [va_up_self] at h63
              have h9 : v9 = -1 := by rw [← hsj]; exact c52
              rw [h9] at hsd
              first | exact sd_hit (by omega) hsd (isOk h63 c66) | exact sd_miss (by omega) hsd (isNo h63 c66)⟩, hK, ⟨f74_mo, f74_u1, f74_u2, f74_u3, f74_u4, f74, f74_u6, f74_u7, n12, n45, n67⟩⟩, hG, lv_sub hl [1, 2, 0] rfl⟩ (by first | omega | (simp only []; omega))

set_option maxHeartbeats 600000 in
set_option maxRecDepth 100000 in
theorem c_mo_join (l : Launch) (Z : gZ) (G : gh) (sz : Nat) (mo : Nat) {u1 u2 u3 u4 u5 u6 u7 : Nat} {th : Int32} {C E M D : Nat} {fl tp : Int32} {pt : Nat → Option Nat} {pd : Nat → Pat} (hQ : moQ Z G mo u1 u2 u3 u4 u5 u6 u7 th C E M D fl tp pt pd) : Met l y_mo_join (wd_mo_join :: Gall) ({ frames := 1, cells := 0, slots := 0, locals := 26 }) (va_Pc [.ref mo] (gPw Z G sz)) (va_Qi (fun (r : Int32) (G9 : gh) => gKe (moI mo u1 u2 u3 u4 u5 u6 u7) G G9 ∧ (moQ Z G9 mo u1 u2 u3 u4 u5 u6 u7 0 C E M D fl tp pt (joinD pt pd 24) ∧ r = nI (cntP pt (joinD pt pd 24) 24))) (gW Z G sz) (gA G sz)) 0 0 (gA G sz) := by
  refine Met.ofW (cc := b_mo_join) (maxL := 4) (ret := (some .int)) (by decide) rfl ?_
  intro p e s m args below meth c s₁ B hml hv
  obtain ⟨rfl, hsz, hG, hE⟩ := hv
  subst hsz
  have hx := B.exec
  have hb := B.bytes
  have hr := B.returns
  have hlocks := B.notSynchronized
  have S : CallFix p m c b_mo_join 4 s _ Gall "PackSeedsModel" := ⟨hx, hb, hml, findClass_of_methodNamed B.named, fun w hw => atoms_spec (ws := wd_mo_join :: Gall) B.pre w (List.mem_cons_of_mem _ hw)⟩
  have hG : gS (gA G s.heap.size) s.heap Z.1 cls G s.heap [] := gS.start hG
  have hl := lv_entry ([.ref mo]) (n := 4) (Nat.le_of_ble_eq_true rfl)
  rw [lg_entry_eq]
  generalize (lg_sl ([.ref mo]) ++ List.replicate (4 - (lg_sl ([.ref mo])).length) Slot.unset).toArray = ls at hl ⊢
  have hl : lv_has ls 4 [(0, .ref mo)] := hl
  have hK : gKe (moI mo u1 u2 u3 u4 u5 u6 u7) G G := gKe.rf
  obtain ⟨cf, mf, ff, gf, sf, tf, bf, hP, hR, hT, hC, hE8, hfl⟩ := hQ
  have hP0 := hP
  obtain ⟨hmo, hc1, hc2, hc3, hc4, hc5, hc6, hc7, n12, n45, n67⟩ := hP
  have hM24 := hR.1
  have hD1 := hT.1
  have hD16 := hT.2.1
  refine lv_aload_n hx hb d_mo_join_0 rfl (lv_at hl 0 rfl) ?_
  refine lv_iconst (v := 0) hx hb d_mo_join_1 (by decide) ?_
  refine g_put S hE.1 hG hmo rfl in_mo ty_mo tyok_mo nm_mo 0 (by decide) tw_491 (fun _ h9 => h9) rfl (ty := .int) (by decide +kernel) rfl rfl (Nat.le_of_ble_eq_true rfl) d_mo_join_2 (fun H locs hG => ?_)
  have hG : gS (gA G s.heap.size) s.heap Z.1 cls (gup G mo (.inr (4, [.int 0, .int (nI C), .int (nI E), .ref u1, .ref u2, .ref u3, .ref u4, .ref u5, .int (nI M), .int (nI D), .ref u6, .int fl, .ref u7]))) H locs := hG
  generalize eG2 : gup G mo (.inr (4, [.int 0, .int (nI C), .int (nI E), .ref u1, .ref u2, .ref u3, .ref u4, .ref u5, .int (nI M), .int (nI D), .ref u6, .int fl, .ref u7])) = G2 at hG
  have f2_u1 : G2 u1 = some (.inl (Z.2 1, 768, .inl cf)) := by rw [← eG2]; exact gup_keep hmo hc1 (by simp)
  have f2_u2 : G2 u2 = some (.inl (Z.2 2, 768, .inl mf)) := by rw [← eG2]; exact gup_keep hmo hc2 (by simp)
  have f2_u3 : G2 u3 = some (.inl (Z.2 2, 744, .inl ff)) := by rw [← eG2]; exact gup_keep hmo hc3 (by simp)
  have f2_u4 : G2 u4 = some (.inl (Z.2 2, 24, .inl gf)) := by rw [← eG2]; exact gup_keep hmo hc4 (by simp)
  have f2_u5 : G2 u5 = some (.inl (Z.2 1, 24, .inl sf)) := by rw [← eG2]; exact gup_keep hmo hc5 (by simp)
  have f2_u6 : G2 u6 = some (.inl (Z.2 2, 16, .inl tf)) := by rw [← eG2]; exact gup_keep hmo hc6 (by simp)
  have f2_u7 : G2 u7 = some (.inl (Z.2 1, 16, .inl bf)) := by rw [← eG2]; exact gup_keep hmo hc7 (by simp)
  have f2 : G2 mo = some (.inr (4, [.int 0, .int (nI C), .int (nI E), .ref u1, .ref u2, .ref u3, .ref u4, .ref u5, .int (nI M), .int (nI D), .ref u6, .int fl, .ref u7])) := by rw [← eG2]; exact gup_self _ _ _
  have hK : gKe (moI mo u1 u2 u3 u4 u5 u6 u7) G G2 := by rw [← eG2]; exact hK.up (by simp [moI])
  refine lv_iconst (v := nI 0) hx hb d_mo_join_5 (by decide) ?_
  refine lv_istore_n (lv' := [(1, .int (nI 0)), (0, .ref mo)]) hx hb d_mo_join_6 rfl hl (by decide) rfl (fun ls hl => ?_)
  refine g_indH (V := Nat × (Nat → Pat) × (Nat → Int32) × (Nat → Int32) × (Nat → Int32) × (Nat → Int32) × (Nat → Int32) × gh) (fun (pi, P, ca0, ma0, fa0, ga0, sa0, Gx) H locs ls => ((pi ≤ M ∧ P = joinD pt pd pi ∧ Sim C E M pt P ca0 ma0 fa0 ga0 sa0) ∧ gKe (moI mo u1 u2 u3 u4 u5 u6 u7) G Gx ∧ moP Z Gx mo u1 u2 u3 u4 u5 u6 u7 0 C E M D fl ca0 ma0 fa0 ga0 sa0 tf bf) ∧ gS (gA G s.heap.size) s.heap Z.1 cls Gx H locs ∧ lv_has ls 4 [(0, .ref mo), (1, .int (nI pi))]) (fun (pi, P, ca0, ma0, fa0, ga0, sa0, Gx) => M - pi) ?_ (0, pd, cf, mf, ff, gf, sf, G2) _ ⟨⟨⟨Nat.zero_le _, rfl, hR⟩, hK, ⟨f2, f2_u1, f2_u2, f2_u3, f2_u4, f2_u5, f2_u6, f2_u7, n12, n45, n67⟩⟩, hG, lv_sub hl [1, 0] rfl⟩
  intro v H locs ls hI ih7
  obtain ⟨pi, P, ca0, ma0, fa0, ga0, sa0, Gx⟩ := v
  obtain ⟨⟨⟨hpi, hPP, hS0⟩, hK, hP7⟩, hG, hl⟩ := hI
  have hQ7 := hP7
  obtain ⟨hmo7, hc17, hc27, hc37, hc47, hc57, hc67, hc77, -⟩ := hP7
  refine lv_iload_n hx hb d_mo_join_7 rfl (lv_at hl 1 rfl) ?_
  refine lv_aload_n hx hb d_mo_join_8 rfl (lv_at hl 0 rfl) ?_
  refine g_get S hE.1 hG.1 hmo7 rfl in_mo 8 (by decide) tw_499 (fun _ h9 => h9) rfl d_mo_join_9 ?_
  refine g_ge (tgt := 247) hx hb d_mo_join_12 (by decide) (by omega) (by omega) (fun c12 => ?_) (fun c12 => ?_)
  · refine lv_aload_n hx hb d_mo_join_247 rfl (lv_at hl 0 rfl) ?_
    refine g_reti (g_runV (As := []) (rest := []) S lk_mo_63 k_mo_left (c_mo_left l Z Gx mo ⟨hmo7, hc17, hc27, hc37, hc47, hc57, hc67, hc77, n12, n45, n67⟩ hS0) ⟨rfl, rfl⟩ ⟨Nat.le_of_ble_eq_true rfl, Nat.le_of_ble_eq_true rfl⟩ (gPreV hG.1 hE hmo7 rfl) rfl hl.1 rfl (Nat.le_of_ble_eq_true rfl) d_mo_join_248 ⟨Nat.le_of_ble_eq_true rfl, Nat.le_of_ble_eq_true rfl⟩) (fun r248 h248 => ?_)
    refine W.widen (k := 0) (n := 0) (Nat.le_of_ble_eq_true rfl) (Nat.le_of_ble_eq_true rfl) ?_
    exact (W.iret hx hb hr (fun t9 ht9 hW9 => ⟨⟨_, _, rfl, (by
        have e0 : P = joinD pt pd 24 := by rw [hPP, show pi = M by omega, joinD_stop hR.2.2.1 hM24]
        rw [← e0]
        exact ⟨hK, ⟨_, _, _, _, _, _, _, ⟨hmo7, hc17, hc27, hc37, hc47, hc57, hc67, hc77, n12, n45, n67⟩, hS0, hT, hC, hE8, hfl⟩, h248⟩), by rw [ht9]; exact hG.1, hG.2.1⟩, hG.2.2.1.F ht9⟩) hG.2.2.1.2.2 d_mo_join_251)
  · refine lv_iload_n hx hb d_mo_join_15 rfl (lv_at hl 1 rfl) ?_
    refine lv_iconst (v := nI 1) hx hb d_mo_join_16 (by decide) ?_
    refine lv_iadd hx hb d_mo_join_17 ?_
    refine g_topi (y := nI (pi + 1)) (nI_add pi 1) ?_
    refine lv_istore_n (lv' := [(2, .int (nI (pi + 1))), (0, .ref mo), (1, .int (nI pi))]) hx hb d_mo_join_18 rfl hl (by decide) rfl (fun ls hl => ?_)
    refine g_indH (V := Nat × (Nat → Pat) × (Nat → Int32) × (Nat → Int32) × (Nat → Int32) × (Nat → Int32) × (Nat → Int32) × gh) (fun (qi, P2, ca1, ma1, fa1, ga1, sa1, Gy) H locs ls => ((pi + 1 ≤ qi ∧ qi ≤ M ∧ P2 = jnQ pt pi P (qi - (pi + 1)) ∧ Sim C E M pt P2 ca1 ma1 fa1 ga1 sa1) ∧ gKe (moI mo u1 u2 u3 u4 u5 u6 u7) G Gy ∧ moP Z Gy mo u1 u2 u3 u4 u5 u6 u7 0 C E M D fl ca1 ma1 fa1 ga1 sa1 tf bf) ∧ gS (gA G s.heap.size) s.heap Z.1 cls Gy H locs ∧ lv_has ls 4 [(0, .ref mo), (1, .int (nI pi)), (2, .int (nI qi))]) (fun (qi, P2, ca1, ma1, fa1, ga1, sa1, Gy) => M - qi) ?_ (pi + 1, P, ca0, ma0, fa0, ga0, sa0, Gx) _ ⟨⟨⟨Nat.le_refl _, by omega, by rw [Nat.sub_self]; unfold jnQ; split <;> rfl, hS0⟩, hK, ⟨hmo7, hc17, hc27, hc37, hc47, hc57, hc67, hc77, n12, n45, n67⟩⟩, hG, lv_sub hl [1, 2, 0] rfl⟩
    intro v H locs ls hI ih19
    obtain ⟨qi, P2, ca1, ma1, fa1, ga1, sa1, Gy⟩ := v
    obtain ⟨⟨⟨hq1, hq2, hP2, hS2⟩, hK, hP19⟩, hG, hl⟩ := hI
    have hQ19 := hP19
    obtain ⟨hmo19, hc119, hc219, hc319, hc419, hc519, hc619, hc719, -⟩ := hP19
    have hqe : pi + 1 + (qi - (pi + 1)) = qi := by omega
    refine lv_iload_n hx hb d_mo_join_19 rfl (lv_at hl 2 rfl) ?_
    refine lv_aload_n hx hb d_mo_join_20 rfl (lv_at hl 0 rfl) ?_
    refine g_get S hE.1 hG.1 hmo19 rfl in_mo 8 (by decide) tw_499 (fun _ h9 => h9) rfl d_mo_join_21 ?_
    refine g_ge (tgt := 241) hx hb d_mo_join_24 (by decide) (by omega) (by omega) (fun c24 => ?_) (fun c24 => ?_)
    · refine lv_iinc (v := nI (pi + 1)) (lv' := [(1, .int (nI (pi + 1))), (0, .ref mo), (2, .int (nI qi))]) hx hb d_mo_join_241 hl (k := 1) rfl (show nI pi + 1 = _ from nI_1 pi) (by decide) rfl (fun ls hl => ?_)
      refine lv_goto (tgt := 7) hx hb d_mo_join_244 (by decide) ?_
      exact ih7 ((pi + 1), P2, ca1, ma1, fa1, ga1, sa1, Gy) _ _ _ ⟨⟨⟨by omega, by rw [joinD_jn, ← hPP, jnQ_stop hR.2.2.1 (by omega) hM24, hP2, show qi = M by omega], hS2⟩, hK, ⟨hmo19, hc119, hc219, hc319, hc419, hc519, hc619, hc719, n12, n45, n67⟩⟩, hG, lv_sub hl [1, 0] rfl⟩ (by first | omega | (simp only []; omega))
    · refine lv_aload_n hx hb d_mo_join_27 rfl (lv_at hl 0 rfl) ?_
      refine g_get S hE.1 hG.1 hmo19 rfl in_mo 6 (by decide) tw_497 (fun _ h9 => h9) rfl d_mo_join_28 ?_
      refine lv_iload_n hx hb d_mo_join_31 rfl (lv_at hl 1 rfl) ?_
      refine g_zald S hE.1 hG.1 hc419 2 rfl (vp_in_nI (by omega) (by omega)) d_mo_join_32 ?_
      refine g_topi (congrArg ga1 (nI_clamp (show pi < 2 ^ 31 by omega))) ?_
      refine lv_if_ne (tgt := 235) hx hb d_mo_join_33 (by decide) (fun c33 => ?_) (fun c33 => ?_)
      · refine lv_iinc (v := nI (qi + 1)) (lv' := [(2, .int (nI (qi + 1))), (0, .ref mo), (1, .int (nI pi))]) hx hb d_mo_join_235 hl (k := 2) rfl (show nI qi + 1 = _ from nI_1 qi) (by decide) rfl (fun ls hl => ?_)
        refine lv_goto (tgt := 19) hx hb d_mo_join_238 (by decide) ?_
        exact ih19 ((qi + 1), P2, (ca1), (ma1), (fa1), (ga1), (sa1), Gy) _ _ _ ⟨⟨⟨by omega, by omega, by
            rw [show qi + 1 - (pi + 1) = qi - (pi + 1) + 1 by omega]
            first | (refine jn_no hP2 ?_; rw [hqe]; intro z; first | exact c33 ((hS2.pr (by omega)).mp z.1).2 | exact c42 ((hS2.pr (by omega)).mp z.2.1).2 | exact z.2.2 (isNo h48 c51)) | (have y := jn_yes hP2 ((hS2.pr (by omega)).mpr ⟨by omega, c33⟩) (by rw [hqe]; exact (hS2.pr (by omega)).mpr ⟨by omega, c42⟩) (by rw [hqe]; exact isOk h48 c51); rw [hqe] at y; exact y), by
            first | exact hS2 | exact hS2.take (by omega) (by omega) (by omega) c33 c42 (isOk h48 c51) (fun k9 h9 => hk1 k9 (by omega)) (fun j h9 => hk2 j (by omega)) (fun k9 h9 => hk3 k9 (by omega)) (fun j h9 => hk4 j (by omega)) (fun k9 h9 => hj1 k9 (by omega)) (fun j h9 => hj2 j (by omega))⟩, hK, ⟨hmo19, hc119, hc219, hc319, hc419, hc519, hc619, hc719, n12, n45, n67⟩⟩, hG, lv_sub hl [1, 2, 0] rfl⟩ (by first | omega | (simp only []; omega))
      · refine lv_aload_n hx hb d_mo_join_36 rfl (lv_at hl 0 rfl) ?_
        refine g_get S hE.1 hG.1 hmo19 rfl in_mo 6 (by decide) tw_497 (fun _ h9 => h9) rfl d_mo_join_37 ?_
        refine lv_iload_n hx hb d_mo_join_40 rfl (lv_at hl 2 rfl) ?_
        refine g_zald S hE.1 hG.1 hc419 2 rfl (vp_in_nI (by omega) (by omega)) d_mo_join_41 ?_
        refine g_topi (congrArg ga1 (nI_clamp (show qi < 2 ^ 31 by omega))) ?_
        refine lv_if_ne (tgt := 235) hx hb d_mo_join_42 (by decide) (fun c42 => ?_) (fun c42 => ?_)
        · refine lv_iinc (v := nI (qi + 1)) (lv' := [(2, .int (nI (qi + 1))), (0, .ref mo), (1, .int (nI pi))]) hx hb d_mo_join_235 hl (k := 2) rfl (show nI qi + 1 = _ from nI_1 qi) (by decide) rfl (fun ls hl => ?_)
          refine lv_goto (tgt := 19) hx hb d_mo_join_238 (by decide) ?_
          exact ih19 ((qi + 1), P2, (ca1), (ma1), (fa1), (ga1), (sa1), Gy) _ _ _ ⟨⟨⟨by omega, by omega, by
              rw [show qi + 1 - (pi + 1) = qi - (pi + 1) + 1 by omega]
              first | (refine jn_no hP2 ?_; rw [hqe]; intro z; first | exact c33 ((hS2.pr (by omega)).mp z.1).2 | exact c42 ((hS2.pr (by omega)).mp z.2.1).2 | exact z.2.2 (isNo h48 c51)) | (have y := jn_yes hP2 ((hS2.pr (by omega)).mpr ⟨by omega, c33⟩) (by rw [hqe]; exact (hS2.pr (by omega)).mpr ⟨by omega, c42⟩) (by rw [hqe]; exact isOk h48 c51); rw [hqe] at y; exact y), by
              first | exact hS2 | exact hS2.take (by omega) (by omega) (by omega) c33 c42 (isOk h48 c51) (fun k9 h9 => hk1 k9 (by omega)) (fun j h9 => hk2 j (by omega)) (fun k9 h9 => hk3 k9 (by omega)) (fun j h9 => hk4 j (by omega)) (fun k9 h9 => hj1 k9 (by omega)) (fun j h9 => hj2 j (by omega))⟩, hK, ⟨hmo19, hc119, hc219, hc319, hc419, hc519, hc619, hc719, n12, n45, n67⟩⟩, hG, lv_sub hl [1, 2, 0] rfl⟩ (by first | omega | (simp only []; omega))
        · refine lv_aload_n hx hb d_mo_join_45 rfl (lv_at hl 0 rfl) ?_
          refine lv_iload_n hx hb d_mo_join_46 rfl (lv_at hl 1 rfl) ?_
          refine lv_iload_n hx hb d_mo_join_47 rfl (lv_at hl 2 rfl) ?_
          refine g_reti (g_runV (As := [.int (nI pi), .int (nI qi)]) (rest := []) S lk_mo_60 k_mo_goTogether (c_mo_goTogether l Z Gy mo ⟨hmo19, hc119, hc219, hc319, hc419, hc519, hc619, hc719, n12, n45, n67⟩ hS2 pi qi (by omega) (by omega) c33 c42) ⟨rfl, rfl⟩ ⟨Nat.le_of_ble_eq_true rfl, Nat.le_of_ble_eq_true rfl⟩ (gPreV hG.1 hE hmo19 rfl) rfl hl.1 rfl (Nat.le_of_ble_eq_true rfl) d_mo_join_48 ⟨Nat.le_of_ble_eq_true rfl, Nat.le_of_ble_eq_true rfl⟩) (fun r48 h48 => ?_)
          refine lv_if_eq (tgt := 235) hx hb d_mo_join_51 (by decide) (fun c51 => ?_) (fun c51 => ?_)
          · refine lv_iinc (v := nI (qi + 1)) (lv' := [(2, .int (nI (qi + 1))), (0, .ref mo), (1, .int (nI pi))]) hx hb d_mo_join_235 hl (k := 2) rfl (show nI qi + 1 = _ from nI_1 qi) (by decide) rfl (fun ls hl => ?_)
            refine lv_goto (tgt := 19) hx hb d_mo_join_238 (by decide) ?_
            exact ih19 ((qi + 1), P2, (ca1), (ma1), (fa1), (ga1), (sa1), Gy) _ _ _ ⟨⟨⟨by omega, by omega, by
                rw [show qi + 1 - (pi + 1) = qi - (pi + 1) + 1 by omega]
                first | (refine jn_no hP2 ?_; rw [hqe]; intro z; first | exact c33 ((hS2.pr (by omega)).mp z.1).2 | exact c42 ((hS2.pr (by omega)).mp z.2.1).2 | exact z.2.2 (isNo h48 c51)) | (have y := jn_yes hP2 ((hS2.pr (by omega)).mpr ⟨by omega, c33⟩) (by rw [hqe]; exact (hS2.pr (by omega)).mpr ⟨by omega, c42⟩) (by rw [hqe]; exact isOk h48 c51); rw [hqe] at y; exact y), by
                first | exact hS2 | exact hS2.take (by omega) (by omega) (by omega) c33 c42 (isOk h48 c51) (fun k9 h9 => hk1 k9 (by omega)) (fun j h9 => hk2 j (by omega)) (fun k9 h9 => hk3 k9 (by omega)) (fun j h9 => hk4 j (by omega)) (fun k9 h9 => hj1 k9 (by omega)) (fun j h9 => hj2 j (by omega))⟩, hK, ⟨hmo19, hc119, hc219, hc319, hc419, hc519, hc619, hc719, n12, n45, n67⟩⟩, hG, lv_sub hl [1, 2, 0] rfl⟩ (by first | omega | (simp only []; omega))
          · refine lv_iconst (v := nI 0) hx hb d_mo_join_54 (by decide) ?_
            refine lv_istore_n (lv' := [(3, .int (nI 0)), (0, .ref mo), (1, .int (nI pi)), (2, .int (nI qi))]) hx hb d_mo_join_55 rfl hl (by decide) rfl (fun ls hl => ?_)
            refine g_indH (V := Nat × (Nat → Int32) × (Nat → Int32) × gh) (fun (k, ca2, ma2, Gz) H locs ls => ((k ≤ 32 ∧ (∀ j, j < k → ca2 (32 * pi + j) = if ca1 (32 * qi + j) = -1 then ca1 (32 * pi + j) else ca1 (32 * qi + j)) ∧ (∀ j, j < 32 * pi ∨ 32 * pi + k ≤ j → ca2 j = ca1 j) ∧ (∀ j, j < k → ma2 (32 * pi + j) = if ¬ ma1 (32 * pi + j) = 0 ∨ ¬ ma1 (32 * qi + j) = 0 then 1 else 0) ∧ (∀ j, j < 32 * pi ∨ 32 * pi + k ≤ j → ma2 j = ma1 j)) ∧ gKe (moI mo u1 u2 u3 u4 u5 u6 u7) G Gz ∧ moP Z Gz mo u1 u2 u3 u4 u5 u6 u7 0 C E M D fl ca2 ma2 fa1 ga1 sa1 tf bf) ∧ gS (gA G s.heap.size) s.heap Z.1 cls Gz H locs ∧ lv_has ls 4 [(0, .ref mo), (1, .int (nI pi)), (2, .int (nI qi)), (3, .int (nI k))]) (fun (k, ca2, ma2, Gz) => 32 - k) ?_ (0, ca1, ma1, Gy) _ ⟨⟨⟨Nat.zero_le _, fun j h9 => by omega, fun _ _ => rfl, fun j h9 => by omega, fun _ _ => rfl⟩, hK, ⟨hmo19, hc119, hc219, hc319, hc419, hc519, hc619, hc719, n12, n45, n67⟩⟩, hG, lv_sub hl [1, 2, 3, 0] rfl⟩
            intro v H locs ls hI ih56
            obtain ⟨k, ca2, ma2, Gz⟩ := v
            obtain ⟨⟨⟨hk, hk1, hk2, hk3, hk4⟩, hK, hP56⟩, hG, hl⟩ := hI
            have hQ56 := hP56
            obtain ⟨hmo56, hc156, hc256, hc356, hc456, hc556, hc656, hc756, -⟩ := hP56
            have e1 := hk2 (32 * qi + k) (by omega)
            have e2 := hk2 (32 * pi + k) (by omega)
            have e3 := hk4 (32 * qi + k) (by omega)
            have e4 := hk4 (32 * pi + k) (by omega)
            refine lv_iload_n hx hb d_mo_join_56 rfl (lv_at hl 3 rfl) ?_
            refine lv_bipush (v := nI 32) hx hb d_mo_join_57 (by decide) ?_
            refine g_ge (tgt := 163) hx hb d_mo_join_59 (by decide) (by omega) (by omega) (fun c59 => ?_) (fun c59 => ?_)
            · refine lv_iconst (v := nI 0) hx hb d_mo_join_163 (by decide) ?_
              refine lv_istore_n (lv' := [(3, .int (nI 0)), (0, .ref mo), (1, .int (nI pi)), (2, .int (nI qi))]) hx hb d_mo_join_164 rfl hl (by decide) rfl (fun ls hl => ?_)
              refine g_indH (V := Nat × (Nat → Int32) × gh) (fun (k2, fa2, Gw) H locs ls => ((k2 ≤ 31 ∧ (∀ j, j < k2 → fa2 (31 * pi + j) = if ¬ fa1 (31 * pi + j) = 0 ∨ ¬ fa1 (31 * qi + j) = 0 then 1 else 0) ∧ (∀ j, j < 31 * pi ∨ 31 * pi + k2 ≤ j → fa2 j = fa1 j)) ∧ gKe (moI mo u1 u2 u3 u4 u5 u6 u7) G Gw ∧ moP Z Gw mo u1 u2 u3 u4 u5 u6 u7 0 C E M D fl ca2 ma2 fa2 ga1 sa1 tf bf) ∧ gS (gA G s.heap.size) s.heap Z.1 cls Gw H locs ∧ lv_has ls 4 [(0, .ref mo), (1, .int (nI pi)), (2, .int (nI qi)), (3, .int (nI k2))]) (fun (k2, fa2, Gw) => 31 - k2) ?_ (0, fa1, Gz) _ ⟨⟨⟨Nat.zero_le _, fun j h9 => by omega, fun _ _ => rfl⟩, hK, ⟨hmo56, hc156, hc256, hc356, hc456, hc556, hc656, hc756, n12, n45, n67⟩⟩, hG, lv_sub hl [1, 2, 3, 0] rfl⟩
              intro v H locs ls hI ih165
              obtain ⟨k2, fa2, Gw⟩ := v
              obtain ⟨⟨⟨hj, hj1, hj2⟩, hK, hP165⟩, hG, hl⟩ := hI
              have hQ165 := hP165
              obtain ⟨hmo165, hc1165, hc2165, hc3165, hc4165, hc5165, hc6165, hc7165, -⟩ := hP165
              have e5 := hj2 (31 * qi + k2) (by omega)
              have e6 := hj2 (31 * pi + k2) (by omega)
              refine lv_iload_n hx hb d_mo_join_165 rfl (lv_at hl 3 rfl) ?_
              refine lv_bipush (v := nI 31) hx hb d_mo_join_166 (by decide) ?_
              refine g_ge (tgt := 221) hx hb d_mo_join_168 (by decide) (by omega) (by omega) (fun c168 => ?_) (fun c168 => ?_)
              · refine lv_aload_n hx hb d_mo_join_221 rfl (lv_at hl 0 rfl) ?_
                refine g_get S hE.1 hG.1 hmo165 rfl in_mo 6 (by decide) tw_497 (fun _ h9 => h9) rfl d_mo_join_222 ?_
                refine lv_iload_n hx hb d_mo_join_225 rfl (lv_at hl 2 rfl) ?_
                refine lv_iconst (v := 1) hx hb d_mo_join_226 (by decide) ?_
                refine g_zast S hE.1 hG hc4165 2 rfl (vp_in_nI (by omega) (by omega)) d_mo_join_227 (fun H locs hG => ?_)
                rw [nI_clamp (show qi < 2 ^ 31 by omega)] at hG
                have hG : gS (gA G s.heap.size) s.heap Z.1 cls (gup Gw u4 (.inl (Z.2 2, 24, .inl (upd ga1 qi 1)))) H locs := hG
                generalize eG227 : gup Gw u4 (.inl (Z.2 2, 24, .inl (upd ga1 qi 1))) = G227 at hG
                have f227_mo : G227 mo = some (.inr (4, [.int 0, .int (nI C), .int (nI E), .ref u1, .ref u2, .ref u3, .ref u4, .ref u5, .int (nI M), .int (nI D), .ref u6, .int fl, .ref u7])) := by rw [← eG227]; exact gup_keep hc4165 hmo165 (by simp)
                have f227_u1 : G227 u1 = some (.inl (Z.2 1, 768, .inl ca2)) := by rw [← eG227]; exact gup_keep hc4165 hc1165 (by simp)
                have f227_u2 : G227 u2 = some (.inl (Z.2 2, 768, .inl ma2)) := by rw [← eG227]; exact gup_keep hc4165 hc2165 (by simp)
                have f227_u3 : G227 u3 = some (.inl (Z.2 2, 744, .inl fa2)) := by rw [← eG227]; exact gup_keep hc4165 hc3165 (by simp)
                have f227_u5 : G227 u5 = some (.inl (Z.2 1, 24, .inl sa1)) := by rw [← eG227]; exact (gup_ne _ _ (Ne.symm n45)).trans hc5165
                have f227_u6 : G227 u6 = some (.inl (Z.2 2, 16, .inl tf)) := by rw [← eG227]; exact gup_keep hc4165 hc6165 (by simp)
                have f227_u7 : G227 u7 = some (.inl (Z.2 1, 16, .inl bf)) := by rw [← eG227]; exact gup_keep hc4165 hc7165 (by simp)
                have f227 : G227 u4 = some (.inl (Z.2 2, 24, .inl (upd ga1 qi 1))) := by rw [← eG227]; exact gup_self _ _ _
                have hK : gKe (moI mo u1 u2 u3 u4 u5 u6 u7) G G227 := by rw [← eG227]; exact hK.up (by simp [moI])
                refine lv_aload_n hx hb d_mo_join_228 rfl (lv_at hl 0 rfl) ?_
                refine g_get S hE.1 hG.1 f227_mo rfl in_mo 7 (by decide) tw_498 (fun _ h9 => h9) rfl d_mo_join_229 ?_
                refine lv_iload_n hx hb d_mo_join_232 rfl (lv_at hl 1 rfl) ?_
                refine lv_iconst (v := (-1)) hx hb d_mo_join_233 (by decide) ?_
                refine g_iast S hE.1 hG f227_u5 1 rfl (vp_in_nI (by omega) (by omega)) d_mo_join_234 (fun H locs hG => ?_)
                rw [nI_clamp (show pi < 2 ^ 31 by omega)] at hG
                have hG : gS (gA G s.heap.size) s.heap Z.1 cls (gup G227 u5 (.inl (Z.2 1, 24, .inl (upd sa1 pi (-1))))) H locs := hG
                generalize eG234 : gup G227 u5 (.inl (Z.2 1, 24, .inl (upd sa1 pi (-1)))) = G234 at hG
                have f234_mo : G234 mo = some (.inr (4, [.int 0, .int (nI C), .int (nI E), .ref u1, .ref u2, .ref u3, .ref u4, .ref u5, .int (nI M), .int (nI D), .ref u6, .int fl, .ref u7])) := by rw [← eG234]; exact gup_keep f227_u5 f227_mo (by simp)
                have f234_u1 : G234 u1 = some (.inl (Z.2 1, 768, .inl ca2)) := by rw [← eG234]; exact gup_keep f227_u5 f227_u1 (by simp)
                have f234_u2 : G234 u2 = some (.inl (Z.2 2, 768, .inl ma2)) := by rw [← eG234]; exact gup_keep f227_u5 f227_u2 (by simp)
                have f234_u3 : G234 u3 = some (.inl (Z.2 2, 744, .inl fa2)) := by rw [← eG234]; exact gup_keep f227_u5 f227_u3 (by simp)
                have f234_u6 : G234 u6 = some (.inl (Z.2 2, 16, .inl tf)) := by rw [← eG234]; exact gup_keep f227_u5 f227_u6 (by simp)
                have f234_u7 : G234 u7 = some (.inl (Z.2 1, 16, .inl bf)) := by rw [← eG234]; exact gup_keep f227_u5 f227_u7 (by simp)
                have f234_u4 : G234 u4 = some (.inl (Z.2 2, 24, .inl (upd ga1 qi 1))) := by rw [← eG234]; exact (gup_ne _ _ n45).trans f227
                have f234 : G234 u5 = some (.inl (Z.2 1, 24, .inl (upd sa1 pi (-1)))) := by rw [← eG234]; exact gup_self _ _ _
                have hK : gKe (moI mo u1 u2 u3 u4 u5 u6 u7) G G234 := by rw [← eG234]; exact hK.up (by simp [moI])
                refine lv_iinc (v := nI (qi + 1)) (lv' := [(2, .int (nI (qi + 1))), (0, .ref mo), (1, .int (nI pi)), (3, .int (nI k2))]) hx hb d_mo_join_235 hl (k := 2) rfl (show nI qi + 1 = _ from nI_1 qi) (by decide) rfl (fun ls hl => ?_)
                refine lv_goto (tgt := 19) hx hb d_mo_join_238 (by decide) ?_
                exact ih19 ((qi + 1), (va_up (va_up P2 pi (qtake (P2 pi) (P2 qi))) qi (qgn (P2 qi) 1)), (ca2), (ma2), (fa2), (upd ga1 qi 1), (upd sa1 pi (-1)), G234) _ _ _ ⟨⟨⟨by omega, by omega, by
                    rw [show qi + 1 - (pi + 1) = qi - (pi + 1) + 1 by omega]
                    first | (refine jn_no hP2 ?_; rw [hqe]; intro z; first | exact c33 ((hS2.pr (by omega)).mp z.1).2 | exact c42 ((hS2.pr (by omega)).mp z.2.1).2 | exact z.2.2 (isNo h48 c51)) | (have y := jn_yes hP2 ((hS2.pr (by omega)).mpr ⟨by omega, c33⟩) (by rw [hqe]; exact (hS2.pr (by omega)).mpr ⟨by omega, c42⟩) (by rw [hqe]; exact isOk h48 c51); rw [hqe] at y; exact y), by
                    first | exact hS2 | exact hS2.take (by omega) (by omega) (by omega) c33 c42 (isOk h48 c51) (fun k9 h9 => hk1 k9 (by omega)) (fun j h9 => hk2 j (by omega)) (fun k9 h9 => hk3 k9 (by omega)) (fun j h9 => hk4 j (by omega)) (fun k9 h9 => hj1 k9 (by omega)) (fun j h9 => hj2 j (by omega))⟩, hK, ⟨f234_mo, f234_u1, f234_u2, f234_u3, f234_u4, f234, f234_u6, f234_u7, n12, n45, n67⟩⟩, hG, lv_sub hl [1, 2, 0] rfl⟩ (by first | omega | (simp only []; omega))
              · refine lv_aload_n hx hb d_mo_join_171 rfl (lv_at hl 0 rfl) ?_
                refine g_get S hE.1 hG.1 hmo165 rfl in_mo 5 (by decide) tw_496 (fun _ h9 => h9) rfl d_mo_join_172 ?_
                refine lv_bipush (v := nI 31) hx hb d_mo_join_175 (by decide) ?_
                refine lv_iload_n hx hb d_mo_join_177 rfl (lv_at hl 1 rfl) ?_
                refine lv_imul hx hb d_mo_join_178 ?_
                refine g_topi (y := nI (31 * pi)) (pk_mul 31 pi) ?_
                refine lv_iload_n hx hb d_mo_join_179 rfl (lv_at hl 3 rfl) ?_
                refine lv_iadd hx hb d_mo_join_180 ?_
                refine g_topi (y := nI ((31 * pi) + k2)) (nI_add (31 * pi) k2) ?_
                refine lv_aload_n hx hb d_mo_join_181 rfl (lv_at hl 0 rfl) ?_
                refine g_get S hE.1 hG.1 hmo165 rfl in_mo 5 (by decide) tw_496 (fun _ h9 => h9) rfl d_mo_join_182 ?_
                refine lv_bipush (v := nI 31) hx hb d_mo_join_185 (by decide) ?_
                refine lv_iload_n hx hb d_mo_join_187 rfl (lv_at hl 1 rfl) ?_
                refine lv_imul hx hb d_mo_join_188 ?_
                refine g_topi (y := nI (31 * pi)) (pk_mul 31 pi) ?_
                refine lv_iload_n hx hb d_mo_join_189 rfl (lv_at hl 3 rfl) ?_
                refine lv_iadd hx hb d_mo_join_190 ?_
                refine g_topi (y := nI ((31 * pi) + k2)) (nI_add (31 * pi) k2) ?_
                refine g_zald S hE.1 hG.1 hc3165 2 rfl (vp_in_nI (by omega) (by omega)) d_mo_join_191 ?_
                refine g_topi (congrArg fa2 (nI_clamp (show ((31 * pi) + k2) < 2 ^ 31 by omega))) ?_
                refine lv_if_ne (tgt := 209) hx hb d_mo_join_192 (by decide) (fun c192 => ?_) (fun c192 => ?_)
                · refine lv_iconst (v := 1) hx hb d_mo_join_209 (by decide) ?_
                  refine lv_goto (tgt := 214) hx hb d_mo_join_210 (by decide) ?_
                  refine g_zast S hE.1 hG hc3165 2 rfl (vp_in_nI (by omega) (by omega)) d_mo_join_214 (fun H locs hG => ?_)
                  rw [nI_clamp (show ((31 * pi) + k2) < 2 ^ 31 by omega)] at hG
                  have hG : gS (gA G s.heap.size) s.heap Z.1 cls (gup Gw u3 (.inl (Z.2 2, 744, .inl (upd fa2 ((31 * pi) + k2) 1)))) H locs := hG
                  generalize eG214 : gup Gw u3 (.inl (Z.2 2, 744, .inl (upd fa2 ((31 * pi) + k2) 1))) = G214 at hG
                  have f214_mo : G214 mo = some (.inr (4, [.int 0, .int (nI C), .int (nI E), .ref u1, .ref u2, .ref u3, .ref u4, .ref u5, .int (nI M), .int (nI D), .ref u6, .int fl, .ref u7])) := by rw [← eG214]; exact gup_keep hc3165 hmo165 (by simp)
                  have f214_u1 : G214 u1 = some (.inl (Z.2 1, 768, .inl ca2)) := by rw [← eG214]; exact gup_keep hc3165 hc1165 (by simp)
                  have f214_u2 : G214 u2 = some (.inl (Z.2 2, 768, .inl ma2)) := by rw [← eG214]; exact gup_keep hc3165 hc2165 (by simp)
                  have f214_u4 : G214 u4 = some (.inl (Z.2 2, 24, .inl ga1)) := by rw [← eG214]; exact gup_keep hc3165 hc4165 (by simp)
                  have f214_u5 : G214 u5 = some (.inl (Z.2 1, 24, .inl sa1)) := by rw [← eG214]; exact gup_keep hc3165 hc5165 (by simp)
                  have f214_u6 : G214 u6 = some (.inl (Z.2 2, 16, .inl tf)) := by rw [← eG214]; exact gup_keep hc3165 hc6165 (by simp)
                  have f214_u7 : G214 u7 = some (.inl (Z.2 1, 16, .inl bf)) := by rw [← eG214]; exact gup_keep hc3165 hc7165 (by simp)
                  have f214 : G214 u3 = some (.inl (Z.2 2, 744, .inl (upd fa2 ((31 * pi) + k2) 1))) := by rw [← eG214]; exact gup_self _ _ _
                  have hK : gKe (moI mo u1 u2 u3 u4 u5 u6 u7) G G214 := by rw [← eG214]; exact hK.up (by simp [moI])
                  refine lv_iinc (v := nI (k2 + 1)) (lv' := [(3, .int (nI (k2 + 1))), (0, .ref mo), (1, .int (nI pi)), (2, .int (nI qi))]) hx hb d_mo_join_215 hl (k := 3) rfl (show nI k2 + 1 = _ from nI_1 k2) (by decide) rfl (fun ls hl => ?_)
                  refine lv_goto (tgt := 165) hx hb d_mo_join_218 (by decide) ?_
                  exact ih165 ((k2 + 1), upd fa2 ((31 * pi) + k2) 1, G214) _ _ _ ⟨⟨⟨by omega, fun j h9 => by
                      by_cases e9 : j = k2
                      · subst e9; rw [pk_us]; rw [e6] at c192; first | rw [if_pos (Or.inl c192)] | rw [if_pos (Or.inr (by rw [← e5]; exact c206))] | rw [if_neg (by rintro (z | z); exact z c192; exact z (by rw [← e5]; exact c206))]
                      · rw [pk_un (by omega)]; exact hj1 j (by omega), fun j h9 => by rw [pk_un (by omega)]; exact hj2 j (by omega)⟩, hK, ⟨f214_mo, f214_u1, f214_u2, f214, f214_u4, f214_u5, f214_u6, f214_u7, n12, n45, n67⟩⟩, hG, lv_sub hl [1, 2, 3, 0] rfl⟩ (by first | omega | (simp only []; omega))
                · refine lv_aload_n hx hb d_mo_join_195 rfl (lv_at hl 0 rfl) ?_
                  refine g_get S hE.1 hG.1 hmo165 rfl in_mo 5 (by decide) tw_496 (fun _ h9 => h9) rfl d_mo_join_196 ?_
                  refine lv_bipush (v := nI 31) hx hb d_mo_join_199 (by decide) ?_
                  refine lv_iload_n hx hb d_mo_join_201 rfl (lv_at hl 2 rfl) ?_
                  refine lv_imul hx hb d_mo_join_202 ?_
                  refine g_topi (y := nI (31 * qi)) (pk_mul 31 qi) ?_
                  refine lv_iload_n hx hb d_mo_join_203 rfl (lv_at hl 3 rfl) ?_
                  refine lv_iadd hx hb d_mo_join_204 ?_
                  refine g_topi (y := nI ((31 * qi) + k2)) (nI_add (31 * qi) k2) ?_
                  refine g_zald S hE.1 hG.1 hc3165 2 rfl (vp_in_nI (by omega) (by omega)) d_mo_join_205 ?_
                  refine g_topi (congrArg fa2 (nI_clamp (show ((31 * qi) + k2) < 2 ^ 31 by omega))) ?_
                  refine lv_if_eq (tgt := 213) hx hb d_mo_join_206 (by decide) (fun c206 => ?_) (fun c206 => ?_)
                  · refine lv_iconst (v := 0) hx hb d_mo_join_213 (by decide) ?_
                    refine g_zast S hE.1 hG hc3165 2 rfl (vp_in_nI (by omega) (by omega)) d_mo_join_214 (fun H locs hG => ?_)
                    rw [nI_clamp (show ((31 * pi) + k2) < 2 ^ 31 by omega)] at hG
                    have hG : gS (gA G s.heap.size) s.heap Z.1 cls (gup Gw u3 (.inl (Z.2 2, 744, .inl (upd fa2 ((31 * pi) + k2) 0)))) H locs := hG
                    generalize eG214 : gup Gw u3 (.inl (Z.2 2, 744, .inl (upd fa2 ((31 * pi) + k2) 0))) = G214 at hG
                    have f214_mo : G214 mo = some (.inr (4, [.int 0, .int (nI C), .int (nI E), .ref u1, .ref u2, .ref u3, .ref u4, .ref u5, .int (nI M), .int (nI D), .ref u6, .int fl, .ref u7])) := by rw [← eG214]; exact gup_keep hc3165 hmo165 (by simp)
                    have f214_u1 : G214 u1 = some (.inl (Z.2 1, 768, .inl ca2)) := by rw [← eG214]; exact gup_keep hc3165 hc1165 (by simp)
                    have f214_u2 : G214 u2 = some (.inl (Z.2 2, 768, .inl ma2)) := by rw [← eG214]; exact gup_keep hc3165 hc2165 (by simp)
                    have f214_u4 : G214 u4 = some (.inl (Z.2 2, 24, .inl ga1)) := by rw [← eG214]; exact gup_keep hc3165 hc4165 (by simp)
                    have f214_u5 : G214 u5 = some (.inl (Z.2 1, 24, .inl sa1)) := by rw [← eG214]; exact gup_keep hc3165 hc5165 (by simp)
                    have f214_u6 : G214 u6 = some (.inl (Z.2 2, 16, .inl tf)) := by rw [← eG214]; exact gup_keep hc3165 hc6165 (by simp)
                    have f214_u7 : G214 u7 = some (.inl (Z.2 1, 16, .inl bf)) := by rw [← eG214]; exact gup_keep hc3165 hc7165 (by simp)
                    have f214 : G214 u3 = some (.inl (Z.2 2, 744, .inl (upd fa2 ((31 * pi) + k2) 0))) := by rw [← eG214]; exact gup_self _ _ _
                    have hK : gKe (moI mo u1 u2 u3 u4 u5 u6 u7) G G214 := by rw [← eG214]; exact hK.up (by simp [moI])
                    refine lv_iinc (v := nI (k2 + 1)) (lv' := [(3, .int (nI (k2 + 1))), (0, .ref mo), (1, .int (nI pi)), (2, .int (nI qi))]) hx hb d_mo_join_215 hl (k := 3) rfl (show nI k2 + 1 = _ from nI_1 k2) (by decide) rfl (fun ls hl => ?_)
                    refine lv_goto (tgt := 165) hx hb d_mo_join_218 (by decide) ?_
                    exact ih165 ((k2 + 1), upd fa2 ((31 * pi) + k2) 0, G214) _ _ _ ⟨⟨⟨by omega, fun j h9 => by
                        by_cases e9 : j = k2
                        · subst e9; rw [pk_us]; rw [e6] at c192; first | rw [if_pos (Or.inl c192)] | rw [if_pos (Or.inr (by rw [← e5]; exact c206))] | rw [if_neg (by rintro (z | z); exact z c192; exact z (by rw [← e5]; exact c206))]
                        · rw [pk_un (by omega)]; exact hj1 j (by omega), fun j h9 => by rw [pk_un (by omega)]; exact hj2 j (by omega)⟩, hK, ⟨f214_mo, f214_u1, f214_u2, f214, f214_u4, f214_u5, f214_u6, f214_u7, n12, n45, n67⟩⟩, hG, lv_sub hl [1, 2, 3, 0] rfl⟩ (by first | omega | (simp only []; omega))
                  · refine lv_iconst (v := 1) hx hb d_mo_join_209 (by decide) ?_
                    refine lv_goto (tgt := 214) hx hb d_mo_join_210 (by decide) ?_
                    refine g_zast S hE.1 hG hc3165 2 rfl (vp_in_nI (by omega) (by omega)) d_mo_join_214 (fun H locs hG => ?_)
                    rw [nI_clamp (show ((31 * pi) + k2) < 2 ^ 31 by omega)] at hG
                    have hG : gS (gA G s.heap.size) s.heap Z.1 cls (gup Gw u3 (.inl (Z.2 2, 744, .inl (upd fa2 ((31 * pi) + k2) 1)))) H locs := hG
                    generalize eG214 : gup Gw u3 (.inl (Z.2 2, 744, .inl (upd fa2 ((31 * pi) + k2) 1))) = G214 at hG
                    have f214_mo : G214 mo = some (.inr (4, [.int 0, .int (nI C), .int (nI E), .ref u1, .ref u2, .ref u3, .ref u4, .ref u5, .int (nI M), .int (nI D), .ref u6, .int fl, .ref u7])) := by rw [← eG214]; exact gup_keep hc3165 hmo165 (by simp)
                    have f214_u1 : G214 u1 = some (.inl (Z.2 1, 768, .inl ca2)) := by rw [← eG214]; exact gup_keep hc3165 hc1165 (by simp)
                    have f214_u2 : G214 u2 = some (.inl (Z.2 2, 768, .inl ma2)) := by rw [← eG214]; exact gup_keep hc3165 hc2165 (by simp)
                    have f214_u4 : G214 u4 = some (.inl (Z.2 2, 24, .inl ga1)) := by rw [← eG214]; exact gup_keep hc3165 hc4165 (by simp)
                    have f214_u5 : G214 u5 = some (.inl (Z.2 1, 24, .inl sa1)) := by rw [← eG214]; exact gup_keep hc3165 hc5165 (by simp)
                    have f214_u6 : G214 u6 = some (.inl (Z.2 2, 16, .inl tf)) := by rw [← eG214]; exact gup_keep hc3165 hc6165 (by simp)
                    have f214_u7 : G214 u7 = some (.inl (Z.2 1, 16, .inl bf)) := by rw [← eG214]; exact gup_keep hc3165 hc7165 (by simp)
                    have f214 : G214 u3 = some (.inl (Z.2 2, 744, .inl (upd fa2 ((31 * pi) + k2) 1))) := by rw [← eG214]; exact gup_self _ _ _
                    have hK : gKe (moI mo u1 u2 u3 u4 u5 u6 u7) G G214 := by rw [← eG214]; exact hK.up (by simp [moI])
                    refine lv_iinc (v := nI (k2 + 1)) (lv' := [(3, .int (nI (k2 + 1))), (0, .ref mo), (1, .int (nI pi)), (2, .int (nI qi))]) hx hb d_mo_join_215 hl (k := 3) rfl (show nI k2 + 1 = _ from nI_1 k2) (by decide) rfl (fun ls hl => ?_)
                    refine lv_goto (tgt := 165) hx hb d_mo_join_218 (by decide) ?_
                    exact ih165 ((k2 + 1), upd fa2 ((31 * pi) + k2) 1, G214) _ _ _ ⟨⟨⟨by omega, fun j h9 => by
                        by_cases e9 : j = k2
                        · subst e9; rw [pk_us]; rw [e6] at c192; first | rw [if_pos (Or.inl c192)] | rw [if_pos (Or.inr (by rw [← e5]; exact c206))] | rw [if_neg (by rintro (z | z); exact z c192; exact z (by rw [← e5]; exact c206))]
                        · rw [pk_un (by omega)]; exact hj1 j (by omega), fun j h9 => by rw [pk_un (by omega)]; exact hj2 j (by omega)⟩, hK, ⟨f214_mo, f214_u1, f214_u2, f214, f214_u4, f214_u5, f214_u6, f214_u7, n12, n45, n67⟩⟩, hG, lv_sub hl [1, 2, 3, 0] rfl⟩ (by first | omega | (simp only []; omega))
            · refine lv_aload_n hx hb d_mo_join_62 rfl (lv_at hl 0 rfl) ?_
              refine g_get S hE.1 hG.1 hmo56 rfl in_mo 3 (by decide) tw_494 (fun _ h9 => h9) rfl d_mo_join_63 ?_
              refine lv_bipush (v := nI 32) hx hb d_mo_join_66 (by decide) ?_
              refine lv_iload_n hx hb d_mo_join_68 rfl (lv_at hl 1 rfl) ?_
              refine lv_imul hx hb d_mo_join_69 ?_
              refine g_topi (y := nI (32 * pi)) (pk_mul 32 pi) ?_
              refine lv_iload_n hx hb d_mo_join_70 rfl (lv_at hl 3 rfl) ?_
              refine lv_iadd hx hb d_mo_join_71 ?_
              refine g_topi (y := nI ((32 * pi) + k)) (nI_add (32 * pi) k) ?_
              refine lv_aload_n hx hb d_mo_join_72 rfl (lv_at hl 0 rfl) ?_
              refine g_get S hE.1 hG.1 hmo56 rfl in_mo 3 (by decide) tw_494 (fun _ h9 => h9) rfl d_mo_join_73 ?_
              refine lv_bipush (v := nI 32) hx hb d_mo_join_76 (by decide) ?_
              refine lv_iload_n hx hb d_mo_join_78 rfl (lv_at hl 2 rfl) ?_
              refine lv_imul hx hb d_mo_join_79 ?_
              refine g_topi (y := nI (32 * qi)) (pk_mul 32 qi) ?_
              refine lv_iload_n hx hb d_mo_join_80 rfl (lv_at hl 3 rfl) ?_
              refine lv_iadd hx hb d_mo_join_81 ?_
              refine g_topi (y := nI ((32 * qi) + k)) (nI_add (32 * qi) k) ?_
              refine g_iald S hE.1 hG.1 hc156 1 rfl (vp_in_nI (by omega) (by omega)) d_mo_join_82 ?_
              refine g_topi (congrArg ca2 (nI_clamp (show ((32 * qi) + k) < 2 ^ 31 by omega))) ?_
              refine lv_iconst (v := (-1)) hx hb d_mo_join_83 (by decide) ?_
              refine lv_icmp_ne (tgt := 101) hx hb d_mo_join_84 (by decide) (fun c84 => ?_) (fun c84 => ?_)
              · refine lv_aload_n hx hb d_mo_join_101 rfl (lv_at hl 0 rfl) ?_
                refine g_get S hE.1 hG.1 hmo56 rfl in_mo 3 (by decide) tw_494 (fun _ h9 => h9) rfl d_mo_join_102 ?_
                refine lv_bipush (v := nI 32) hx hb d_mo_join_105 (by decide) ?_
                refine lv_iload_n hx hb d_mo_join_107 rfl (lv_at hl 2 rfl) ?_
                refine lv_imul hx hb d_mo_join_108 ?_
                refine g_topi (y := nI (32 * qi)) (pk_mul 32 qi) ?_
                refine lv_iload_n hx hb d_mo_join_109 rfl (lv_at hl 3 rfl) ?_
                refine lv_iadd hx hb d_mo_join_110 ?_
                refine g_topi (y := nI ((32 * qi) + k)) (nI_add (32 * qi) k) ?_
                refine g_iald S hE.1 hG.1 hc156 1 rfl (vp_in_nI (by omega) (by omega)) d_mo_join_111 ?_
                refine g_topi (congrArg ca2 (nI_clamp (show ((32 * qi) + k) < 2 ^ 31 by omega))) ?_
                refine g_iast S hE.1 hG hc156 1 rfl (vp_in_nI (by omega) (by omega)) d_mo_join_112 (fun H locs hG => ?_)
                rw [nI_clamp (show ((32 * pi) + k) < 2 ^ 31 by omega)] at hG
                have hG : gS (gA G s.heap.size) s.heap Z.1 cls (gup Gz u1 (.inl (Z.2 1, 768, .inl (upd ca2 ((32 * pi) + k) (ca2 ((32 * qi) + k)))))) H locs := hG
                generalize eG112 : gup Gz u1 (.inl (Z.2 1, 768, .inl (upd ca2 ((32 * pi) + k) (ca2 ((32 * qi) + k))))) = G112 at hG
                have f112_mo : G112 mo = some (.inr (4, [.int 0, .int (nI C), .int (nI E), .ref u1, .ref u2, .ref u3, .ref u4, .ref u5, .int (nI M), .int (nI D), .ref u6, .int fl, .ref u7])) := by rw [← eG112]; exact gup_keep hc156 hmo56 (by simp)
                have f112_u2 : G112 u2 = some (.inl (Z.2 2, 768, .inl ma2)) := by rw [← eG112]; exact (gup_ne _ _ (Ne.symm n12)).trans hc256
                have f112_u3 : G112 u3 = some (.inl (Z.2 2, 744, .inl fa1)) := by rw [← eG112]; exact gup_keep hc156 hc356 (by simp)
                have f112_u4 : G112 u4 = some (.inl (Z.2 2, 24, .inl ga1)) := by rw [← eG112]; exact gup_keep hc156 hc456 (by simp)
                have f112_u5 : G112 u5 = some (.inl (Z.2 1, 24, .inl sa1)) := by rw [← eG112]; exact gup_keep hc156 hc556 (by simp)
                have f112_u6 : G112 u6 = some (.inl (Z.2 2, 16, .inl tf)) := by rw [← eG112]; exact gup_keep hc156 hc656 (by simp)
                have f112_u7 : G112 u7 = some (.inl (Z.2 1, 16, .inl bf)) := by rw [← eG112]; exact gup_keep hc156 hc756 (by simp)
                have f112 : G112 u1 = some (.inl (Z.2 1, 768, .inl (upd ca2 ((32 * pi) + k) (ca2 ((32 * qi) + k))))) := by rw [← eG112]; exact gup_self _ _ _
                have hK : gKe (moI mo u1 u2 u3 u4 u5 u6 u7) G G112 := by rw [← eG112]; exact hK.up (by simp [moI])
                refine lv_aload_n hx hb d_mo_join_113 rfl (lv_at hl 0 rfl) ?_
                refine g_get S hE.1 hG.1 f112_mo rfl in_mo 4 (by decide) tw_495 (fun _ h9 => h9) rfl d_mo_join_114 ?_
                refine lv_bipush (v := nI 32) hx hb d_mo_join_117 (by decide) ?_
                refine lv_iload_n hx hb d_mo_join_119 rfl (lv_at hl 1 rfl) ?_
                refine lv_imul hx hb d_mo_join_120 ?_
                refine g_topi (y := nI (32 * pi)) (pk_mul 32 pi) ?_
                refine lv_iload_n hx hb d_mo_join_121 rfl (lv_at hl 3 rfl) ?_
                refine lv_iadd hx hb d_mo_join_122 ?_
                refine g_topi (y := nI ((32 * pi) + k)) (nI_add (32 * pi) k) ?_
                refine lv_aload_n hx hb d_mo_join_123 rfl (lv_at hl 0 rfl) ?_
                refine g_get S hE.1 hG.1 f112_mo rfl in_mo 4 (by decide) tw_495 (fun _ h9 => h9) rfl d_mo_join_124 ?_
                refine lv_bipush (v := nI 32) hx hb d_mo_join_127 (by decide) ?_
                refine lv_iload_n hx hb d_mo_join_129 rfl (lv_at hl 1 rfl) ?_
                refine lv_imul hx hb d_mo_join_130 ?_
                refine g_topi (y := nI (32 * pi)) (pk_mul 32 pi) ?_
                refine lv_iload_n hx hb d_mo_join_131 rfl (lv_at hl 3 rfl) ?_
                refine lv_iadd hx hb d_mo_join_132 ?_
                refine g_topi (y := nI ((32 * pi) + k)) (nI_add (32 * pi) k) ?_
                refine g_zald S hE.1 hG.1 f112_u2 2 rfl (vp_in_nI (by omega) (by omega)) d_mo_join_133 ?_
                refine g_topi (congrArg ma2 (nI_clamp (show ((32 * pi) + k) < 2 ^ 31 by omega))) ?_
                refine lv_if_ne (tgt := 151) hx hb d_mo_join_134 (by decide) (fun c134 => ?_) (fun c134 => ?_)
                · refine lv_iconst (v := 1) hx hb d_mo_join_151 (by decide) ?_
                  refine lv_goto (tgt := 156) hx hb d_mo_join_152 (by decide) ?_
                  refine g_zast S hE.1 hG f112_u2 2 rfl (vp_in_nI (by omega) (by omega)) d_mo_join_156 (fun H locs hG => ?_)
                  rw [nI_clamp (show ((32 * pi) + k) < 2 ^ 31 by omega)] at hG
                  have hG : gS (gA G s.heap.size) s.heap Z.1 cls (gup G112 u2 (.inl (Z.2 2, 768, .inl (upd ma2 ((32 * pi) + k) 1)))) H locs := hG
                  generalize eG156 : gup G112 u2 (.inl (Z.2 2, 768, .inl (upd ma2 ((32 * pi) + k) 1))) = G156 at hG
                  have f156_mo : G156 mo = some (.inr (4, [.int 0, .int (nI C), .int (nI E), .ref u1, .ref u2, .ref u3, .ref u4, .ref u5, .int (nI M), .int (nI D), .ref u6, .int fl, .ref u7])) := by rw [← eG156]; exact gup_keep f112_u2 f112_mo (by simp)
                  have f156_u3 : G156 u3 = some (.inl (Z.2 2, 744, .inl fa1)) := by rw [← eG156]; exact gup_keep f112_u2 f112_u3 (by simp)
                  have f156_u4 : G156 u4 = some (.inl (Z.2 2, 24, .inl ga1)) := by rw [← eG156]; exact gup_keep f112_u2 f112_u4 (by simp)
                  have f156_u5 : G156 u5 = some (.inl (Z.2 1, 24, .inl sa1)) := by rw [← eG156]; exact gup_keep f112_u2 f112_u5 (by simp)
                  have f156_u6 : G156 u6 = some (.inl (Z.2 2, 16, .inl tf)) := by rw [← eG156]; exact gup_keep f112_u2 f112_u6 (by simp)
                  have f156_u7 : G156 u7 = some (.inl (Z.2 1, 16, .inl bf)) := by rw [← eG156]; exact gup_keep f112_u2 f112_u7 (by simp)
                  have f156_u1 : G156 u1 = some (.inl (Z.2 1, 768, .inl (upd ca2 ((32 * pi) + k) (ca2 ((32 * qi) + k))))) := by rw [← eG156]; exact (gup_ne _ _ n12).trans f112
                  have f156 : G156 u2 = some (.inl (Z.2 2, 768, .inl (upd ma2 ((32 * pi) + k) 1))) := by rw [← eG156]; exact gup_self _ _ _
                  have hK : gKe (moI mo u1 u2 u3 u4 u5 u6 u7) G G156 := by rw [← eG156]; exact hK.up (by simp [moI])
                  refine lv_iinc (v := nI (k + 1)) (lv' := [(3, .int (nI (k + 1))), (0, .ref mo), (1, .int (nI pi)), (2, .int (nI qi))]) hx hb d_mo_join_157 hl (k := 3) rfl (show nI k + 1 = _ from nI_1 k) (by decide) rfl (fun ls hl => ?_)
                  refine lv_goto (tgt := 56) hx hb d_mo_join_160 (by decide) ?_
                  exact ih56 ((k + 1), upd ca2 ((32 * pi) + k) (ca2 ((32 * qi) + k)), upd ma2 ((32 * pi) + k) 1, G156) _ _ _ ⟨⟨⟨by omega, fun j h9 => by
                      by_cases e9 : j = k
                      · subst e9; rw [pk_us]; first | rw [if_pos (by rw [← e1]; exact c84), e2] | rw [if_neg (by rw [← e1]; exact c84), e1]
                      · rw [pk_un (by omega)]; exact hk1 j (by omega), fun j h9 => by rw [pk_un (by omega)]; exact hk2 j (by omega), fun j h9 => by
                      by_cases e9 : j = k
                      · subst e9; rw [pk_us]; rw [e4] at c134; first | rw [if_pos (Or.inl c134)] | rw [if_pos (Or.inr (by rw [← e3]; exact c148))] | rw [if_neg (by rintro (z | z); exact z c134; exact z (by rw [← e3]; exact c148))]
                      · rw [pk_un (by omega)]; exact hk3 j (by omega), fun j h9 => by rw [pk_un (by omega)]; exact hk4 j (by omega)⟩, hK, ⟨f156_mo, f156_u1, f156, f156_u3, f156_u4, f156_u5, f156_u6, f156_u7, n12, n45, n67⟩⟩, hG, lv_sub hl [1, 2, 3, 0] rfl⟩ (by first | omega | (simp only []; omega))
                · refine lv_aload_n hx hb d_mo_join_137 rfl (lv_at hl 0 rfl) ?_
                  refine g_get S hE.1 hG.1 f112_mo rfl in_mo 4 (by decide) tw_495 (fun _ h9 => h9) rfl d_mo_join_138 ?_
                  refine lv_bipush (v := nI 32) hx hb d_mo_join_141 (by decide) ?_
                  refine lv_iload_n hx hb d_mo_join_143 rfl (lv_at hl 2 rfl) ?_
                  refine lv_imul hx hb d_mo_join_144 ?_
                  refine g_topi (y := nI (32 * qi)) (pk_mul 32 qi) ?_
                  refine lv_iload_n hx hb d_mo_join_145 rfl (lv_at hl 3 rfl) ?_
                  refine lv_iadd hx hb d_mo_join_146 ?_
                  refine g_topi (y := nI ((32 * qi) + k)) (nI_add (32 * qi) k) ?_
                  refine g_zald S hE.1 hG.1 f112_u2 2 rfl (vp_in_nI (by omega) (by omega)) d_mo_join_147 ?_
                  refine g_topi (congrArg ma2 (nI_clamp (show ((32 * qi) + k) < 2 ^ 31 by omega))) ?_
                  refine lv_if_eq (tgt := 155) hx hb d_mo_join_148 (by decide) (fun c148 => ?_) (fun c148 => ?_)
                  · refine lv_iconst (v := 0) hx hb d_mo_join_155 (by decide) ?_
                    refine g_zast S hE.1 hG f112_u2 2 rfl (vp_in_nI (by omega) (by omega)) d_mo_join_156 (fun H locs hG => ?_)
                    rw [nI_clamp (show ((32 * pi) + k) < 2 ^ 31 by omega)] at hG
                    have hG : gS (gA G s.heap.size) s.heap Z.1 cls (gup G112 u2 (.inl (Z.2 2, 768, .inl (upd ma2 ((32 * pi) + k) 0)))) H locs := hG
                    generalize eG156 : gup G112 u2 (.inl (Z.2 2, 768, .inl (upd ma2 ((32 * pi) + k) 0))) = G156 at hG
                    have f156_mo : G156 mo = some (.inr (4, [.int 0, .int (nI C), .int (nI E), .ref u1, .ref u2, .ref u3, .ref u4, .ref u5, .int (nI M), .int (nI D), .ref u6, .int fl, .ref u7])) := by rw [← eG156]; exact gup_keep f112_u2 f112_mo (by simp)
                    have f156_u3 : G156 u3 = some (.inl (Z.2 2, 744, .inl fa1)) := by rw [← eG156]; exact gup_keep f112_u2 f112_u3 (by simp)
                    have f156_u4 : G156 u4 = some (.inl (Z.2 2, 24, .inl ga1)) := by rw [← eG156]; exact gup_keep f112_u2 f112_u4 (by simp)
                    have f156_u5 : G156 u5 = some (.inl (Z.2 1, 24, .inl sa1)) := by rw [← eG156]; exact gup_keep f112_u2 f112_u5 (by simp)
                    have f156_u6 : G156 u6 = some (.inl (Z.2 2, 16, .inl tf)) := by rw [← eG156]; exact gup_keep f112_u2 f112_u6 (by simp)
                    have f156_u7 : G156 u7 = some (.inl (Z.2 1, 16, .inl bf)) := by rw [← eG156]; exact gup_keep f112_u2 f112_u7 (by simp)
                    have f156_u1 : G156 u1 = some (.inl (Z.2 1, 768, .inl (upd ca2 ((32 * pi) + k) (ca2 ((32 * qi) + k))))) := by rw [← eG156]; exact (gup_ne _ _ n12).trans f112
                    have f156 : G156 u2 = some (.inl (Z.2 2, 768, .inl (upd ma2 ((32 * pi) + k) 0))) := by rw [← eG156]; exact gup_self _ _ _
                    have hK : gKe (moI mo u1 u2 u3 u4 u5 u6 u7) G G156 := by rw [← eG156]; exact hK.up (by simp [moI])
                    refine lv_iinc (v := nI (k + 1)) (lv' := [(3, .int (nI (k + 1))), (0, .ref mo), (1, .int (nI pi)), (2, .int (nI qi))]) hx hb d_mo_join_157 hl (k := 3) rfl (show nI k + 1 = _ from nI_1 k) (by decide) rfl (fun ls hl => ?_)
                    refine lv_goto (tgt := 56) hx hb d_mo_join_160 (by decide) ?_
                    exact ih56 ((k + 1), upd ca2 ((32 * pi) + k) (ca2 ((32 * qi) + k)), upd ma2 ((32 * pi) + k) 0, G156) _ _ _ ⟨⟨⟨by omega, fun j h9 => by
                        by_cases e9 : j = k
                        · subst e9; rw [pk_us]; first | rw [if_pos (by rw [← e1]; exact c84), e2] | rw [if_neg (by rw [← e1]; exact c84), e1]
                        · rw [pk_un (by omega)]; exact hk1 j (by omega), fun j h9 => by rw [pk_un (by omega)]; exact hk2 j (by omega), fun j h9 => by
                        by_cases e9 : j = k
                        · subst e9; rw [pk_us]; rw [e4] at c134; first | rw [if_pos (Or.inl c134)] | rw [if_pos (Or.inr (by rw [← e3]; exact c148))] | rw [if_neg (by rintro (z | z); exact z c134; exact z (by rw [← e3]; exact c148))]
                        · rw [pk_un (by omega)]; exact hk3 j (by omega), fun j h9 => by rw [pk_un (by omega)]; exact hk4 j (by omega)⟩, hK, ⟨f156_mo, f156_u1, f156, f156_u3, f156_u4, f156_u5, f156_u6, f156_u7, n12, n45, n67⟩⟩, hG, lv_sub hl [1, 2, 3, 0] rfl⟩ (by first | omega | (simp only []; omega))
                  · refine lv_iconst (v := 1) hx hb d_mo_join_151 (by decide) ?_
                    refine lv_goto (tgt := 156) hx hb d_mo_join_152 (by decide) ?_
                    refine g_zast S hE.1 hG f112_u2 2 rfl (vp_in_nI (by omega) (by omega)) d_mo_join_156 (fun H locs hG => ?_)
                    rw [nI_clamp (show ((32 * pi) + k) < 2 ^ 31 by omega)] at hG
                    have hG : gS (gA G s.heap.size) s.heap Z.1 cls (gup G112 u2 (.inl (Z.2 2, 768, .inl (upd ma2 ((32 * pi) + k) 1)))) H locs := hG
                    generalize eG156 : gup G112 u2 (.inl (Z.2 2, 768, .inl (upd ma2 ((32 * pi) + k) 1))) = G156 at hG
                    have f156_mo : G156 mo = some (.inr (4, [.int 0, .int (nI C), .int (nI E), .ref u1, .ref u2, .ref u3, .ref u4, .ref u5, .int (nI M), .int (nI D), .ref u6, .int fl, .ref u7])) := by rw [← eG156]; exact gup_keep f112_u2 f112_mo (by simp)
                    have f156_u3 : G156 u3 = some (.inl (Z.2 2, 744, .inl fa1)) := by rw [← eG156]; exact gup_keep f112_u2 f112_u3 (by simp)
                    have f156_u4 : G156 u4 = some (.inl (Z.2 2, 24, .inl ga1)) := by rw [← eG156]; exact gup_keep f112_u2 f112_u4 (by simp)
                    have f156_u5 : G156 u5 = some (.inl (Z.2 1, 24, .inl sa1)) := by rw [← eG156]; exact gup_keep f112_u2 f112_u5 (by simp)
                    have f156_u6 : G156 u6 = some (.inl (Z.2 2, 16, .inl tf)) := by rw [← eG156]; exact gup_keep f112_u2 f112_u6 (by simp)
                    have f156_u7 : G156 u7 = some (.inl (Z.2 1, 16, .inl bf)) := by rw [← eG156]; exact gup_keep f112_u2 f112_u7 (by simp)
                    have f156_u1 : G156 u1 = some (.inl (Z.2 1, 768, .inl (upd ca2 ((32 * pi) + k) (ca2 ((32 * qi) + k))))) := by rw [← eG156]; exact (gup_ne _ _ n12).trans f112
                    have f156 : G156 u2 = some (.inl (Z.2 2, 768, .inl (upd ma2 ((32 * pi) + k) 1))) := by rw [← eG156]; exact gup_self _ _ _
                    have hK : gKe (moI mo u1 u2 u3 u4 u5 u6 u7) G G156 := by rw [← eG156]; exact hK.up (by simp [moI])
                    refine lv_iinc (v := nI (k + 1)) (lv' := [(3, .int (nI (k + 1))), (0, .ref mo), (1, .int (nI pi)), (2, .int (nI qi))]) hx hb d_mo_join_157 hl (k := 3) rfl (show nI k + 1 = _ from nI_1 k) (by decide) rfl (fun ls hl => ?_)
                    refine lv_goto (tgt := 56) hx hb d_mo_join_160 (by decide) ?_
                    exact ih56 ((k + 1), upd ca2 ((32 * pi) + k) (ca2 ((32 * qi) + k)), upd ma2 ((32 * pi) + k) 1, G156) _ _ _ ⟨⟨⟨by omega, fun j h9 => by
                        by_cases e9 : j = k
                        · subst e9; rw [pk_us]; first | rw [if_pos (by rw [← e1]; exact c84), e2] | rw [if_neg (by rw [← e1]; exact c84), e1]
                        · rw [pk_un (by omega)]; exact hk1 j (by omega), fun j h9 => by rw [pk_un (by omega)]; exact hk2 j (by omega), fun j h9 => by
                        by_cases e9 : j = k
                        · subst e9; rw [pk_us]; rw [e4] at c134; first | rw [if_pos (Or.inl c134)] | rw [if_pos (Or.inr (by rw [← e3]; exact c148))] | rw [if_neg (by rintro (z | z); exact z c134; exact z (by rw [← e3]; exact c148))]
                        · rw [pk_un (by omega)]; exact hk3 j (by omega), fun j h9 => by rw [pk_un (by omega)]; exact hk4 j (by omega)⟩, hK, ⟨f156_mo, f156_u1, f156, f156_u3, f156_u4, f156_u5, f156_u6, f156_u7, n12, n45, n67⟩⟩, hG, lv_sub hl [1, 2, 3, 0] rfl⟩ (by first | omega | (simp only []; omega))
              · refine lv_aload_n hx hb d_mo_join_87 rfl (lv_at hl 0 rfl) ?_
                refine g_get S hE.1 hG.1 hmo56 rfl in_mo 3 (by decide) tw_494 (fun _ h9 => h9) rfl d_mo_join_88 ?_
                refine lv_bipush (v := nI 32) hx hb d_mo_join_91 (by decide) ?_
                refine lv_iload_n hx hb d_mo_join_93 rfl (lv_at hl 1 rfl) ?_
                refine lv_imul hx hb d_mo_join_94 ?_
                refine g_topi (y := nI (32 * pi)) (pk_mul 32 pi) ?_
                refine lv_iload_n hx hb d_mo_join_95 rfl (lv_at hl 3 rfl) ?_
                refine lv_iadd hx hb d_mo_join_96 ?_
                refine g_topi (y := nI ((32 * pi) + k)) (nI_add (32 * pi) k) ?_
                refine g_iald S hE.1 hG.1 hc156 1 rfl (vp_in_nI (by omega) (by omega)) d_mo_join_97 ?_
                refine g_topi (congrArg ca2 (nI_clamp (show ((32 * pi) + k) < 2 ^ 31 by omega))) ?_
                refine lv_goto (tgt := 112) hx hb d_mo_join_98 (by decide) ?_
                refine g_iast S hE.1 hG hc156 1 rfl (vp_in_nI (by omega) (by omega)) d_mo_join_112 (fun H locs hG => ?_)
                rw [nI_clamp (show ((32 * pi) + k) < 2 ^ 31 by omega)] at hG
                have hG : gS (gA G s.heap.size) s.heap Z.1 cls (gup Gz u1 (.inl (Z.2 1, 768, .inl (upd ca2 ((32 * pi) + k) (ca2 ((32 * pi) + k)))))) H locs := hG
                generalize eG112 : gup Gz u1 (.inl (Z.2 1, 768, .inl (upd ca2 ((32 * pi) + k) (ca2 ((32 * pi) + k))))) = G112 at hG
                have f112_mo : G112 mo = some (.inr (4, [.int 0, .int (nI C), .int (nI E), .ref u1, .ref u2, .ref u3, .ref u4, .ref u5, .int (nI M), .int (nI D), .ref u6, .int fl, .ref u7])) := by rw [← eG112]; exact gup_keep hc156 hmo56 (by simp)
                have f112_u2 : G112 u2 = some (.inl (Z.2 2, 768, .inl ma2)) := by rw [← eG112]; exact (gup_ne _ _ (Ne.symm n12)).trans hc256
                have f112_u3 : G112 u3 = some (.inl (Z.2 2, 744, .inl fa1)) := by rw [← eG112]; exact gup_keep hc156 hc356 (by simp)
                have f112_u4 : G112 u4 = some (.inl (Z.2 2, 24, .inl ga1)) := by rw [← eG112]; exact gup_keep hc156 hc456 (by simp)
                have f112_u5 : G112 u5 = some (.inl (Z.2 1, 24, .inl sa1)) := by rw [← eG112]; exact gup_keep hc156 hc556 (by simp)
                have f112_u6 : G112 u6 = some (.inl (Z.2 2, 16, .inl tf)) := by rw [← eG112]; exact gup_keep hc156 hc656 (by simp)
                have f112_u7 : G112 u7 = some (.inl (Z.2 1, 16, .inl bf)) := by rw [← eG112]; exact gup_keep hc156 hc756 (by simp)
                have f112 : G112 u1 = some (.inl (Z.2 1, 768, .inl (upd ca2 ((32 * pi) + k) (ca2 ((32 * pi) + k))))) := by rw [← eG112]; exact gup_self _ _ _
                have hK : gKe (moI mo u1 u2 u3 u4 u5 u6 u7) G G112 := by rw [← eG112]; exact hK.up (by simp [moI])
                refine lv_aload_n hx hb d_mo_join_113 rfl (lv_at hl 0 rfl) ?_
                refine g_get S hE.1 hG.1 f112_mo rfl in_mo 4 (by decide) tw_495 (fun _ h9 => h9) rfl d_mo_join_114 ?_
                refine lv_bipush (v := nI 32) hx hb d_mo_join_117 (by decide) ?_
                refine lv_iload_n hx hb d_mo_join_119 rfl (lv_at hl 1 rfl) ?_
                refine lv_imul hx hb d_mo_join_120 ?_
                refine g_topi (y := nI (32 * pi)) (pk_mul 32 pi) ?_
                refine lv_iload_n hx hb d_mo_join_121 rfl (lv_at hl 3 rfl) ?_
                refine lv_iadd hx hb d_mo_join_122 ?_
                refine g_topi (y := nI ((32 * pi) + k)) (nI_add (32 * pi) k) ?_
                refine lv_aload_n hx hb d_mo_join_123 rfl (lv_at hl 0 rfl) ?_
                refine g_get S hE.1 hG.1 f112_mo rfl in_mo 4 (by decide) tw_495 (fun _ h9 => h9) rfl d_mo_join_124 ?_
                refine lv_bipush (v := nI 32) hx hb d_mo_join_127 (by decide) ?_
                refine lv_iload_n hx hb d_mo_join_129 rfl (lv_at hl 1 rfl) ?_
                refine lv_imul hx hb d_mo_join_130 ?_
                refine g_topi (y := nI (32 * pi)) (pk_mul 32 pi) ?_
                refine lv_iload_n hx hb d_mo_join_131 rfl (lv_at hl 3 rfl) ?_
                refine lv_iadd hx hb d_mo_join_132 ?_
                refine g_topi (y := nI ((32 * pi) + k)) (nI_add (32 * pi) k) ?_
                refine g_zald S hE.1 hG.1 f112_u2 2 rfl (vp_in_nI (by omega) (by omega)) d_mo_join_133 ?_
                refine g_topi (congrArg ma2 (nI_clamp (show ((32 * pi) + k) < 2 ^ 31 by omega))) ?_
                refine lv_if_ne (tgt := 151) hx hb d_mo_join_134 (by decide) (fun c134 => ?_) (fun c134 => ?_)
                · refine lv_iconst (v := 1) hx hb d_mo_join_151 (by decide) ?_
                  refine lv_goto (tgt := 156) hx hb d_mo_join_152 (by decide) ?_
                  refine g_zast S hE.1 hG f112_u2 2 rfl (vp_in_nI (by omega) (by omega)) d_mo_join_156 (fun H locs hG => ?_)
                  rw [nI_clamp (show ((32 * pi) + k) < 2 ^ 31 by omega)] at hG
                  have hG : gS (gA G s.heap.size) s.heap Z.1 cls (gup G112 u2 (.inl (Z.2 2, 768, .inl (upd ma2 ((32 * pi) + k) 1)))) H locs := hG
                  generalize eG156 : gup G112 u2 (.inl (Z.2 2, 768, .inl (upd ma2 ((32 * pi) + k) 1))) = G156 at hG
                  have f156_mo : G156 mo = some (.inr (4, [.int 0, .int (nI C), .int (nI E), .ref u1, .ref u2, .ref u3, .ref u4, .ref u5, .int (nI M), .int (nI D), .ref u6, .int fl, .ref u7])) := by rw [← eG156]; exact gup_keep f112_u2 f112_mo (by simp)
                  have f156_u3 : G156 u3 = some (.inl (Z.2 2, 744, .inl fa1)) := by rw [← eG156]; exact gup_keep f112_u2 f112_u3 (by simp)
                  have f156_u4 : G156 u4 = some (.inl (Z.2 2, 24, .inl ga1)) := by rw [← eG156]; exact gup_keep f112_u2 f112_u4 (by simp)
                  have f156_u5 : G156 u5 = some (.inl (Z.2 1, 24, .inl sa1)) := by rw [← eG156]; exact gup_keep f112_u2 f112_u5 (by simp)
                  have f156_u6 : G156 u6 = some (.inl (Z.2 2, 16, .inl tf)) := by rw [← eG156]; exact gup_keep f112_u2 f112_u6 (by simp)
                  have f156_u7 : G156 u7 = some (.inl (Z.2 1, 16, .inl bf)) := by rw [← eG156]; exact gup_keep f112_u2 f112_u7 (by simp)
                  have f156_u1 : G156 u1 = some (.inl (Z.2 1, 768, .inl (upd ca2 ((32 * pi) + k) (ca2 ((32 * pi) + k))))) := by rw [← eG156]; exact (gup_ne _ _ n12).trans f112
                  have f156 : G156 u2 = some (.inl (Z.2 2, 768, .inl (upd ma2 ((32 * pi) + k) 1))) := by rw [← eG156]; exact gup_self _ _ _
                  have hK : gKe (moI mo u1 u2 u3 u4 u5 u6 u7) G G156 := by rw [← eG156]; exact hK.up (by simp [moI])
                  refine lv_iinc (v := nI (k + 1)) (lv' := [(3, .int (nI (k + 1))), (0, .ref mo), (1, .int (nI pi)), (2, .int (nI qi))]) hx hb d_mo_join_157 hl (k := 3) rfl (show nI k + 1 = _ from nI_1 k) (by decide) rfl (fun ls hl => ?_)
                  refine lv_goto (tgt := 56) hx hb d_mo_join_160 (by decide) ?_
                  exact ih56 ((k + 1), upd ca2 ((32 * pi) + k) (ca2 ((32 * pi) + k)), upd ma2 ((32 * pi) + k) 1, G156) _ _ _ ⟨⟨⟨by omega, fun j h9 => by
                      by_cases e9 : j = k
                      · subst e9; rw [pk_us]; first | rw [if_pos (by rw [← e1]; exact c84), e2] | rw [if_neg (by rw [← e1]; exact c84), e1]
                      · rw [pk_un (by omega)]; exact hk1 j (by omega), fun j h9 => by rw [pk_un (by omega)]; exact hk2 j (by omega), fun j h9 => by
                      by_cases e9 : j = k
                      · subst e9; rw [pk_us]; rw [e4] at c134; first | rw [if_pos (Or.inl c134)] | rw [if_pos (Or.inr (by rw [← e3]; exact c148))] | rw [if_neg (by rintro (z | z); exact z c134; exact z (by rw [← e3]; exact c148))]
                      · rw [pk_un (by omega)]; exact hk3 j (by omega), fun j h9 => by rw [pk_un (by omega)]; exact hk4 j (by omega)⟩, hK, ⟨f156_mo, f156_u1, f156, f156_u3, f156_u4, f156_u5, f156_u6, f156_u7, n12, n45, n67⟩⟩, hG, lv_sub hl [1, 2, 3, 0] rfl⟩ (by first | omega | (simp only []; omega))
                · refine lv_aload_n hx hb d_mo_join_137 rfl (lv_at hl 0 rfl) ?_
                  refine g_get S hE.1 hG.1 f112_mo rfl in_mo 4 (by decide) tw_495 (fun _ h9 => h9) rfl d_mo_join_138 ?_
                  refine lv_bipush (v := nI 32) hx hb d_mo_join_141 (by decide) ?_
                  refine lv_iload_n hx hb d_mo_join_143 rfl (lv_at hl 2 rfl) ?_
                  refine lv_imul hx hb d_mo_join_144 ?_
                  refine g_topi (y := nI (32 * qi)) (pk_mul 32 qi) ?_
                  refine lv_iload_n hx hb d_mo_join_145 rfl (lv_at hl 3 rfl) ?_
                  refine lv_iadd hx hb d_mo_join_146 ?_
                  refine g_topi (y := nI ((32 * qi) + k)) (nI_add (32 * qi) k) ?_
                  refine g_zald S hE.1 hG.1 f112_u2 2 rfl (vp_in_nI (by omega) (by omega)) d_mo_join_147 ?_
                  refine g_topi (congrArg ma2 (nI_clamp (show ((32 * qi) + k) < 2 ^ 31 by omega))) ?_
                  refine lv_if_eq (tgt := 155) hx hb d_mo_join_148 (by decide) (fun c148 => ?_) (fun c148 => ?_)
                  · refine lv_iconst (v := 0) hx hb d_mo_join_155 (by decide) ?_
                    refine g_zast S hE.1 hG f112_u2 2 rfl (vp_in_nI (by omega) (by omega)) d_mo_join_156 (fun H locs hG => ?_)
                    rw [nI_clamp (show ((32 * pi) + k) < 2 ^ 31 by omega)] at hG
                    have hG : gS (gA G s.heap.size) s.heap Z.1 cls (gup G112 u2 (.inl (Z.2 2, 768, .inl (upd ma2 ((32 * pi) + k) 0)))) H locs := hG
                    generalize eG156 : gup G112 u2 (.inl (Z.2 2, 768, .inl (upd ma2 ((32 * pi) + k) 0))) = G156 at hG
                    have f156_mo : G156 mo = some (.inr (4, [.int 0, .int (nI C), .int (nI E), .ref u1, .ref u2, .ref u3, .ref u4, .ref u5, .int (nI M), .int (nI D), .ref u6, .int fl, .ref u7])) := by rw [← eG156]; exact gup_keep f112_u2 f112_mo (by simp)
                    have f156_u3 : G156 u3 = some (.inl (Z.2 2, 744, .inl fa1)) := by rw [← eG156]; exact gup_keep f112_u2 f112_u3 (by simp)
                    have f156_u4 : G156 u4 = some (.inl (Z.2 2, 24, .inl ga1)) := by rw [← eG156]; exact gup_keep f112_u2 f112_u4 (by simp)
                    have f156_u5 : G156 u5 = some (.inl (Z.2 1, 24, .inl sa1)) := by rw [← eG156]; exact gup_keep f112_u2 f112_u5 (by simp)
                    have f156_u6 : G156 u6 = some (.inl (Z.2 2, 16, .inl tf)) := by rw [← eG156]; exact gup_keep f112_u2 f112_u6 (by simp)
                    have f156_u7 : G156 u7 = some (.inl (Z.2 1, 16, .inl bf)) := by rw [← eG156]; exact gup_keep f112_u2 f112_u7 (by simp)
                    have f156_u1 : G156 u1 = some (.inl (Z.2 1, 768, .inl (upd ca2 ((32 * pi) + k) (ca2 ((32 * pi) + k))))) := by rw [← eG156]; exact (gup_ne _ _ n12).trans f112
                    have f156 : G156 u2 = some (.inl (Z.2 2, 768, .inl (upd ma2 ((32 * pi) + k) 0))) := by rw [← eG156]; exact gup_self _ _ _
                    have hK : gKe (moI mo u1 u2 u3 u4 u5 u6 u7) G G156 := by rw [← eG156]; exact hK.up (by simp [moI])
                    refine lv_iinc (v := nI (k + 1)) (lv' := [(3, .int (nI (k + 1))), (0, .ref mo), (1, .int (nI pi)), (2, .int (nI qi))]) hx hb d_mo_join_157 hl (k := 3) rfl (show nI k + 1 = _ from nI_1 k) (by decide) rfl (fun ls hl => ?_)
                    refine lv_goto (tgt := 56) hx hb d_mo_join_160 (by decide) ?_
                    exact ih56 ((k + 1), upd ca2 ((32 * pi) + k) (ca2 ((32 * pi) + k)), upd ma2 ((32 * pi) + k) 0, G156) _ _ _ ⟨⟨⟨by omega, fun j h9 => by
                        by_cases e9 : j = k
                        · subst e9; rw [pk_us]; first | rw [if_pos (by rw [← e1]; exact c84), e2] | rw [if_neg (by rw [← e1]; exact c84), e1]
                        · rw [pk_un (by omega)]; exact hk1 j (by omega), fun j h9 => by rw [pk_un (by omega)]; exact hk2 j (by omega), fun j h9 => by
                        by_cases e9 : j = k
                        · subst e9; rw [pk_us]; rw [e4] at c134; first | rw [if_pos (Or.inl c134)] | rw [if_pos (Or.inr (by rw [← e3]; exact c148))] | rw [if_neg (by rintro (z | z); exact z c134; exact z (by rw [← e3]; exact c148))]
                        · rw [pk_un (by omega)]; exact hk3 j (by omega), fun j h9 => by rw [pk_un (by omega)]; exact hk4 j (by omega)⟩, hK, ⟨f156_mo, f156_u1, f156, f156_u3, f156_u4, f156_u5, f156_u6, f156_u7, n12, n45, n67⟩⟩, hG, lv_sub hl [1, 2, 3, 0] rfl⟩ (by first | omega | (simp only []; omega))
                  · refine lv_iconst (v := 1) hx hb d_mo_join_151 (by decide) ?_
                    refine lv_goto (tgt := 156) hx hb d_mo_join_152 (by decide) ?_
                    refine g_zast S hE.1 hG f112_u2 2 rfl (vp_in_nI (by omega) (by omega)) d_mo_join_156 (fun H locs hG => ?_)
                    rw [nI_clamp (show ((32 * pi) + k) < 2 ^ 31 by omega)] at hG
                    have hG : gS (gA G s.heap.size) s.heap Z.1 cls (gup G112 u2 (.inl (Z.2 2, 768, .inl (upd ma2 ((32 * pi) + k) 1)))) H locs := hG
                    generalize eG156 : gup G112 u2 (.inl (Z.2 2, 768, .inl (upd ma2 ((32 * pi) + k) 1))) = G156 at hG
                    have f156_mo : G156 mo = some (.inr (4, [.int 0, .int (nI C), .int (nI E), .ref u1, .ref u2, .ref u3, .ref u4, .ref u5, .int (nI M), .int (nI D), .ref u6, .int fl, .ref u7])) := by rw [← eG156]; exact gup_keep f112_u2 f112_mo (by simp)
                    have f156_u3 : G156 u3 = some (.inl (Z.2 2, 744, .inl fa1)) := by rw [← eG156]; exact gup_keep f112_u2 f112_u3 (by simp)
                    have f156_u4 : G156 u4 = some (.inl (Z.2 2, 24, .inl ga1)) := by rw [← eG156]; exact gup_keep f112_u2 f112_u4 (by simp)
                    have f156_u5 : G156 u5 = some (.inl (Z.2 1, 24, .inl sa1)) := by rw [← eG156]; exact gup_keep f112_u2 f112_u5 (by simp)
                    have f156_u6 : G156 u6 = some (.inl (Z.2 2, 16, .inl tf)) := by rw [← eG156]; exact gup_keep f112_u2 f112_u6 (by simp)
                    have f156_u7 : G156 u7 = some (.inl (Z.2 1, 16, .inl bf)) := by rw [← eG156]; exact gup_keep f112_u2 f112_u7 (by simp)
                    have f156_u1 : G156 u1 = some (.inl (Z.2 1, 768, .inl (upd ca2 ((32 * pi) + k) (ca2 ((32 * pi) + k))))) := by rw [← eG156]; exact (gup_ne _ _ n12).trans f112
                    have f156 : G156 u2 = some (.inl (Z.2 2, 768, .inl (upd ma2 ((32 * pi) + k) 1))) := by rw [← eG156]; exact gup_self _ _ _
                    have hK : gKe (moI mo u1 u2 u3 u4 u5 u6 u7) G G156 := by rw [← eG156]; exact hK.up (by simp [moI])
                    refine lv_iinc (v := nI (k + 1)) (lv' := [(3, .int (nI (k + 1))), (0, .ref mo), (1, .int (nI pi)), (2, .int (nI qi))]) hx hb d_mo_join_157 hl (k := 3) rfl (show nI k + 1 = _ from nI_1 k) (by decide) rfl (fun ls hl => ?_)
                    refine lv_goto (tgt := 56) hx hb d_mo_join_160 (by decide) ?_
                    exact ih56 ((k + 1), upd ca2 ((32 * pi) + k) (ca2 ((32 * pi) + k)), upd ma2 ((32 * pi) + k) 1, G156) _ _ _ ⟨⟨⟨by omega, fun j h9 => by
                        by_cases e9 : j = k
                        · subst e9; rw [pk_us]; first | rw [if_pos (by rw [← e1]; exact c84), e2] | rw [if_neg (by rw [← e1]; exact c84), e1]
                        · rw [pk_un (by omega)]; exact hk1 j (by omega), fun j h9 => by rw [pk_un (by omega)]; exact hk2 j (by omega), fun j h9 => by
                        by_cases e9 : j = k
                        · subst e9; rw [pk_us]; rw [e4] at c134; first | rw [if_pos (Or.inl c134)] | rw [if_pos (Or.inr (by rw [← e3]; exact c148))] | rw [if_neg (by rintro (z | z); exact z c134; exact z (by rw [← e3]; exact c148))]
                        · rw [pk_un (by omega)]; exact hk3 j (by omega), fun j h9 => by rw [pk_un (by omega)]; exact hk4 j (by omega)⟩, hK, ⟨f156_mo, f156_u1, f156, f156_u3, f156_u4, f156_u5, f156_u6, f156_u7, n12, n45, n67⟩⟩, hG, lv_sub hl [1, 2, 3, 0] rfl⟩ (by first | omega | (simp only []; omega))

set_option maxHeartbeats 600000 in
set_option maxRecDepth 100000 in
theorem c_mo_drop (l : Launch) (Z : gZ) (G : gh) (sz : Nat) (mo : Nat) {u1 u2 u3 u4 u5 u6 u7 : Nat} {th : Int32} {C E M D : Nat} {fl tp : Int32} {pt : Nat → Option Nat} {pd : Nat → Pat} (hQ : moQ Z G mo u1 u2 u3 u4 u5 u6 u7 th C E M D fl tp pt pd) : Met l y_mo_drop (wd_mo_drop :: Gall) ({ frames := 1, cells := 0, slots := 0, locals := 23 }) (va_Pc [.ref mo] (gPw Z G sz)) (va_Qi (fun (r : Int32) (G9 : gh) => gKe (moI mo u1 u2 u3 u4 u5 u6 u7) G G9 ∧ (moQ Z G9 mo u1 u2 u3 u4 u5 u6 u7 0 C E M D fl tp pt (drS pt 24 pd) ∧ r = nI (cntP pt (drS pt 24 pd) 24))) (gW Z G sz) (gA G sz)) 0 0 (gA G sz) := by
  refine Met.ofW (cc := b_mo_drop) (maxL := 4) (ret := (some .int)) (by decide) rfl ?_
  intro p e s m args below meth c s₁ B hml hv
  obtain ⟨rfl, hsz, hG, hE⟩ := hv
  subst hsz
  have hx := B.exec
  have hb := B.bytes
  have hr := B.returns
  have hlocks := B.notSynchronized
  have S : CallFix p m c b_mo_drop 4 s _ Gall "PackSeedsModel" := ⟨hx, hb, hml, findClass_of_methodNamed B.named, fun w hw => atoms_spec (ws := wd_mo_drop :: Gall) B.pre w (List.mem_cons_of_mem _ hw)⟩
  have hG : gS (gA G s.heap.size) s.heap Z.1 cls G s.heap [] := gS.start hG
  have hl := lv_entry ([.ref mo]) (n := 4) (Nat.le_of_ble_eq_true rfl)
  rw [lg_entry_eq]
  generalize (lg_sl ([.ref mo]) ++ List.replicate (4 - (lg_sl ([.ref mo])).length) Slot.unset).toArray = ls at hl ⊢
  have hl : lv_has ls 4 [(0, .ref mo)] := hl
  have hK : gKe (moI mo u1 u2 u3 u4 u5 u6 u7) G G := gKe.rf
  obtain ⟨cf, mf, ff, gf, sf, tf, bf, hP, hR, hT, hC, hE8, hfl⟩ := hQ
  have hP0 := hP
  obtain ⟨hmo, hc1, hc2, hc3, hc4, hc5, hc6, hc7, n12, n45, n67⟩ := hP
  have hM24 := hR.1
  have hD1 := hT.1
  have hD16 := hT.2.1
  refine lv_aload_n hx hb d_mo_drop_0 rfl (lv_at hl 0 rfl) ?_
  refine lv_iconst (v := 0) hx hb d_mo_drop_1 (by decide) ?_
  refine g_put S hE.1 hG hmo rfl in_mo ty_mo tyok_mo nm_mo 0 (by decide) tw_491 (fun _ h9 => h9) rfl (ty := .int) (by decide +kernel) rfl rfl (Nat.le_of_ble_eq_true rfl) d_mo_drop_2 (fun H locs hG => ?_)
  have hG : gS (gA G s.heap.size) s.heap Z.1 cls (gup G mo (.inr (4, [.int 0, .int (nI C), .int (nI E), .ref u1, .ref u2, .ref u3, .ref u4, .ref u5, .int (nI M), .int (nI D), .ref u6, .int fl, .ref u7]))) H locs := hG
  generalize eG2 : gup G mo (.inr (4, [.int 0, .int (nI C), .int (nI E), .ref u1, .ref u2, .ref u3, .ref u4, .ref u5, .int (nI M), .int (nI D), .ref u6, .int fl, .ref u7])) = G2 at hG
  have f2_u1 : G2 u1 = some (.inl (Z.2 1, 768, .inl cf)) := by rw [← eG2]; exact gup_keep hmo hc1 (by simp)
  have f2_u2 : G2 u2 = some (.inl (Z.2 2, 768, .inl mf)) := by rw [← eG2]; exact gup_keep hmo hc2 (by simp)
  have f2_u3 : G2 u3 = some (.inl (Z.2 2, 744, .inl ff)) := by rw [← eG2]; exact gup_keep hmo hc3 (by simp)
  have f2_u4 : G2 u4 = some (.inl (Z.2 2, 24, .inl gf)) := by rw [← eG2]; exact gup_keep hmo hc4 (by simp)
  have f2_u5 : G2 u5 = some (.inl (Z.2 1, 24, .inl sf)) := by rw [← eG2]; exact gup_keep hmo hc5 (by simp)
  have f2_u6 : G2 u6 = some (.inl (Z.2 2, 16, .inl tf)) := by rw [← eG2]; exact gup_keep hmo hc6 (by simp)
  have f2_u7 : G2 u7 = some (.inl (Z.2 1, 16, .inl bf)) := by rw [← eG2]; exact gup_keep hmo hc7 (by simp)
  have f2 : G2 mo = some (.inr (4, [.int 0, .int (nI C), .int (nI E), .ref u1, .ref u2, .ref u3, .ref u4, .ref u5, .int (nI M), .int (nI D), .ref u6, .int fl, .ref u7])) := by rw [← eG2]; exact gup_self _ _ _
  have hK : gKe (moI mo u1 u2 u3 u4 u5 u6 u7) G G2 := by rw [← eG2]; exact hK.up (by simp [moI])
  refine lv_aload_n hx hb d_mo_drop_5 rfl (lv_at hl 0 rfl) ?_
  refine g_get S hE.1 hG.1 f2 rfl in_mo 8 (by decide) tw_499 (fun _ h9 => h9) rfl d_mo_drop_6 ?_
  refine lv_iconst (v := 1) hx hb d_mo_drop_9 (by decide) ?_
  refine lv_isub hx hb d_mo_drop_10 ?_
  refine g_topi (y := dn M) (dn_sub1 M) ?_
  refine lv_istore_n (lv' := [(1, .int (dn M)), (0, .ref mo)]) hx hb d_mo_drop_11 rfl hl (by decide) rfl (fun ls hl => ?_)
  refine g_indH (V := Nat × (Nat → Pat) × (Nat → Int32) × gh) (fun (j, P, ga0, Gx) H locs ls => ((j ≤ M ∧ drS pt 24 pd = drS pt j P ∧ Sim C E M pt P cf mf ff ga0 sf) ∧ gKe (moI mo u1 u2 u3 u4 u5 u6 u7) G Gx ∧ moP Z Gx mo u1 u2 u3 u4 u5 u6 u7 0 C E M D fl cf mf ff ga0 sf tf bf) ∧ gS (gA G s.heap.size) s.heap Z.1 cls Gx H locs ∧ lv_has ls 4 [(0, .ref mo), (1, .int (dn j))]) (fun (j, P, ga0, Gx) => j) ?_ (M, pd, gf, G2) _ ⟨⟨⟨Nat.le_refl _, sDrS hR, hR⟩, hK, ⟨f2, f2_u1, f2_u2, f2_u3, f2_u4, f2_u5, f2_u6, f2_u7, n12, n45, n67⟩⟩, hG, lv_sub hl [1, 0] rfl⟩
  intro v H locs ls hI ih12
  obtain ⟨j, P, ga0, Gx⟩ := v
  obtain ⟨⟨⟨hj, hdr, hS⟩, hK, hP12⟩, hG, hl⟩ := hI
  have hQ12 := hP12
  obtain ⟨hmo12, hc112, hc212, hc312, hc412, hc512, hc612, hc712, -⟩ := hP12
  cases j with
  | zero =>
    have hl : lv_has ls 4 [(0, .ref mo), (1, .int (-1))] := hl
    refine lv_iload_n hx hb d_mo_drop_12 rfl (lv_at hl 1 rfl) ?_
    refine lv_if_lt (tgt := 95) hx hb d_mo_drop_13 (by decide) (fun c13 => ?_) (fun c13 => absurd c13 (by decide))
    refine lv_aload_n hx hb d_mo_drop_95 rfl (lv_at hl 0 rfl) ?_
    refine g_reti (g_runV (As := []) (rest := []) S lk_mo_63 k_mo_left (c_mo_left l Z Gx mo ⟨hmo12, hc112, hc212, hc312, hc412, hc512, hc612, hc712, n12, n45, n67⟩ hS) ⟨rfl, rfl⟩ ⟨Nat.le_of_ble_eq_true rfl, Nat.le_of_ble_eq_true rfl⟩ (gPreV hG.1 hE hmo12 rfl) rfl hl.1 rfl (Nat.le_of_ble_eq_true rfl) d_mo_drop_96 ⟨Nat.le_of_ble_eq_true rfl, Nat.le_of_ble_eq_true rfl⟩) (fun r96 h96 => ?_)
    refine W.widen (k := 0) (n := 0) (Nat.le_of_ble_eq_true rfl) (Nat.le_of_ble_eq_true rfl) ?_
    exact (W.iret hx hb hr (fun t9 ht9 hW9 => ⟨⟨_, _, rfl, (by
        have e0 : P = drS pt 24 pd := by rw [hdr]; rfl
        rw [← e0]
        exact ⟨hK, ⟨_, _, _, _, _, _, _, ⟨hmo12, hc112, hc212, hc312, hc412, hc512, hc612, hc712, n12, n45, n67⟩, hS, hT, hC, hE8, hfl⟩, h96⟩), by rw [ht9]; exact hG.1, hG.2.1⟩, hG.2.2.1.F ht9⟩) hG.2.2.1.2.2 d_mo_drop_99)
  | succ pi =>
    have hl : lv_has ls 4 [(0, .ref mo), (1, .int (nI pi))] := hl
    refine lv_iload_n hx hb d_mo_drop_12 rfl (lv_at hl 1 rfl) ?_
    refine lv_if_lt (tgt := 95) hx hb d_mo_drop_13 (by decide) (fun c13 => absurd c13 (nI_pos (by omega))) (fun c13 => ?_)
    refine lv_iconst (v := 1) hx hb d_mo_drop_16 (by decide) ?_
    refine lv_istore_n (lv' := [(2, .int 1), (0, .ref mo), (1, .int (nI pi))]) hx hb d_mo_drop_17 rfl hl (by decide) rfl (fun ls hl => ?_)
    refine lv_iconst (v := nI 0) hx hb d_mo_drop_18 (by decide) ?_
    refine lv_istore_n (lv' := [(3, .int (nI 0)), (2, .int 1), (0, .ref mo), (1, .int (nI pi))]) hx hb d_mo_drop_19 rfl hl (by decide) rfl (fun ls hl => ?_)
    refine g_ind (V := Nat × Int32) (fun (f, b) ls => (f ≤ 31 ∧ ((b = 1 ∧ ∀ i, i < f → (ff (31 * pi + i) = 0 ∨ 1 < cntF pt P (on1 i) 24)) ∨ (b = 0 ∧ ¬ ∀ i, i < f → (ff (31 * pi + i) = 0 ∨ 1 < cntF pt P (on1 i) 24)))) ∧ lv_has ls 4 [(0, .ref mo), (1, .int (nI pi)), (2, .int b), (3, .int (nI f))]) (fun (f, b) => 31 - f) ?_ (0, 1) _ ⟨⟨Nat.zero_le _, Or.inl ⟨rfl, fun i hi => by omega⟩⟩, lv_sub hl [2, 3, 1, 0] rfl⟩
    intro v ls hI ih20
    obtain ⟨f, b⟩ := v
    obtain ⟨⟨hf, hbb⟩, hl⟩ := hI
    refine lv_iload_n hx hb d_mo_drop_20 rfl (lv_at hl 3 rfl) ?_
    refine lv_bipush (v := nI 31) hx hb d_mo_drop_21 (by decide) ?_
    refine g_ge (tgt := 65) hx hb d_mo_drop_23 (by decide) (by omega) (by omega) (fun c23 => ?_) (fun c23 => ?_)
    · refine lv_aload_n hx hb d_mo_drop_65 rfl (lv_at hl 0 rfl) ?_
      refine g_get S hE.1 hG.1 hmo12 rfl in_mo 6 (by decide) tw_497 (fun _ h9 => h9) rfl d_mo_drop_66 ?_
      refine lv_iload_n hx hb d_mo_drop_69 rfl (lv_at hl 1 rfl) ?_
      refine lv_aload_n hx hb d_mo_drop_70 rfl (lv_at hl 0 rfl) ?_
      refine g_get S hE.1 hG.1 hmo12 rfl in_mo 6 (by decide) tw_497 (fun _ h9 => h9) rfl d_mo_drop_71 ?_
      refine lv_iload_n hx hb d_mo_drop_74 rfl (lv_at hl 1 rfl) ?_
      refine g_zald S hE.1 hG.1 hc412 2 rfl (vp_in_nI (by omega) (by omega)) d_mo_drop_75 ?_
      refine g_topi (congrArg ga0 (nI_clamp (show pi < 2 ^ 31 by omega))) ?_
      refine lv_if_ne (tgt := 83) hx hb d_mo_drop_76 (by decide) (fun c76 => ?_) (fun c76 => ?_)
      · refine lv_iconst (v := 1) hx hb d_mo_drop_83 (by decide) ?_
        refine lv_goto (tgt := 88) hx hb d_mo_drop_84 (by decide) ?_
        refine g_zast S hE.1 hG hc412 2 rfl (vp_in_nI (by omega) (by omega)) d_mo_drop_88 (fun H locs hG => ?_)
        rw [nI_clamp (show pi < 2 ^ 31 by omega)] at hG
        have hG : gS (gA G s.heap.size) s.heap Z.1 cls (gup Gx u4 (.inl (Z.2 2, 24, .inl (upd ga0 pi 1)))) H locs := hG
        generalize eG88 : gup Gx u4 (.inl (Z.2 2, 24, .inl (upd ga0 pi 1))) = G88 at hG
        have f88_mo : G88 mo = some (.inr (4, [.int 0, .int (nI C), .int (nI E), .ref u1, .ref u2, .ref u3, .ref u4, .ref u5, .int (nI M), .int (nI D), .ref u6, .int fl, .ref u7])) := by rw [← eG88]; exact gup_keep hc412 hmo12 (by simp)
        have f88_u1 : G88 u1 = some (.inl (Z.2 1, 768, .inl cf)) := by rw [← eG88]; exact gup_keep hc412 hc112 (by simp)
        have f88_u2 : G88 u2 = some (.inl (Z.2 2, 768, .inl mf)) := by rw [← eG88]; exact gup_keep hc412 hc212 (by simp)
        have f88_u3 : G88 u3 = some (.inl (Z.2 2, 744, .inl ff)) := by rw [← eG88]; exact gup_keep hc412 hc312 (by simp)
        have f88_u5 : G88 u5 = some (.inl (Z.2 1, 24, .inl sf)) := by rw [← eG88]; exact (gup_ne _ _ (Ne.symm n45)).trans hc512
        have f88_u6 : G88 u6 = some (.inl (Z.2 2, 16, .inl tf)) := by rw [← eG88]; exact gup_keep hc412 hc612 (by simp)
        have f88_u7 : G88 u7 = some (.inl (Z.2 1, 16, .inl bf)) := by rw [← eG88]; exact gup_keep hc412 hc712 (by simp)
        have f88 : G88 u4 = some (.inl (Z.2 2, 24, .inl (upd ga0 pi 1))) := by rw [← eG88]; exact gup_self _ _ _
        have hK : gKe (moI mo u1 u2 u3 u4 u5 u6 u7) G G88 := by rw [← eG88]; exact hK.up (by simp [moI])
        refine lv_iinc (v := dn pi) (lv' := [(1, .int (dn pi)), (0, .ref mo), (2, .int b), (3, .int (nI f))]) hx hb d_mo_drop_89 hl (k := 1) rfl (dn_pred pi) (by decide) rfl (fun ls hl => ?_)
        refine lv_goto (tgt := 12) hx hb d_mo_drop_92 (by decide) ?_
        exact ih12 (pi, (if (prN pt P pi).isSome = true ∧ pfa (P pi) &&& (orF pt P (nI pi) 24 ^^^ (-1)) = 0 then va_up P pi (qgn (P pi) 1) else P), upd ga0 pi 1, G88) _ _ _ ⟨⟨⟨by omega, by rw [hdr]; rfl, by
            have e31 : f = 31 := by omega
            rw [e31] at hbb
            first | (rw [if_neg (fun z => c76 ((hS.pr (by omega)).mp z.1).2)]; exact hS.still (by omega) c76) | (rw [if_pos ⟨(hS.pr (by omega)).mpr ⟨by omega, c76⟩, (sNeed hS (by omega) c76).mp (isOk hbb c80)⟩]; exact hS.gone (by omega)) | (rw [if_neg (fun z => isNo hbb c80 ((sNeed hS (by omega) c76).mpr z.2)), upd_same c76]; exact hS)⟩, hK, ⟨f88_mo, f88_u1, f88_u2, f88_u3, f88, f88_u5, f88_u6, f88_u7, n12, n45, n67⟩⟩, hG, lv_sub hl [1, 0] rfl⟩ (by first | omega | (simp only []; omega))
      · refine lv_iload_n hx hb d_mo_drop_79 rfl (lv_at hl 2 rfl) ?_
        refine lv_if_eq (tgt := 87) hx hb d_mo_drop_80 (by decide) (fun c80 => ?_) (fun c80 => ?_)
        · refine lv_iconst (v := 0) hx hb d_mo_drop_87 (by decide) ?_
          refine g_zast S hE.1 hG hc412 2 rfl (vp_in_nI (by omega) (by omega)) d_mo_drop_88 (fun H locs hG => ?_)
          rw [nI_clamp (show pi < 2 ^ 31 by omega)] at hG
          have hG : gS (gA G s.heap.size) s.heap Z.1 cls (gup Gx u4 (.inl (Z.2 2, 24, .inl (upd ga0 pi 0)))) H locs := hG
          generalize eG88 : gup Gx u4 (.inl (Z.2 2, 24, .inl (upd ga0 pi 0))) = G88 at hG
          have f88_mo : G88 mo = some (.inr (4, [.int 0, .int (nI C), .int (nI E), .ref u1, .ref u2, .ref u3, .ref u4, .ref u5, .int (nI M), .int (nI D), .ref u6, .int fl, .ref u7])) := by rw [← eG88]; exact gup_keep hc412 hmo12 (by simp)
          have f88_u1 : G88 u1 = some (.inl (Z.2 1, 768, .inl cf)) := by rw [← eG88]; exact gup_keep hc412 hc112 (by simp)
          have f88_u2 : G88 u2 = some (.inl (Z.2 2, 768, .inl mf)) := by rw [← eG88]; exact gup_keep hc412 hc212 (by simp)
          have f88_u3 : G88 u3 = some (.inl (Z.2 2, 744, .inl ff)) := by rw [← eG88]; exact gup_keep hc412 hc312 (by simp)
          have f88_u5 : G88 u5 = some (.inl (Z.2 1, 24, .inl sf)) := by rw [← eG88]; exact (gup_ne _ _ (Ne.symm n45)).trans hc512
          have f88_u6 : G88 u6 = some (.inl (Z.2 2, 16, .inl tf)) := by rw [← eG88]; exact gup_keep hc412 hc612 (by simp)
          have f88_u7 : G88 u7 = some (.inl (Z.2 1, 16, .inl bf)) := by rw [← eG88]; exact gup_keep hc412 hc712 (by simp)
          have f88 : G88 u4 = some (.inl (Z.2 2, 24, .inl (upd ga0 pi 0))) := by rw [← eG88]; exact gup_self _ _ _
          have hK : gKe (moI mo u1 u2 u3 u4 u5 u6 u7) G G88 := by rw [← eG88]; exact hK.up (by simp [moI])
          refine lv_iinc (v := dn pi) (lv' := [(1, .int (dn pi)), (0, .ref mo), (2, .int b), (3, .int (nI f))]) hx hb d_mo_drop_89 hl (k := 1) rfl (dn_pred pi) (by decide) rfl (fun ls hl => ?_)
          refine lv_goto (tgt := 12) hx hb d_mo_drop_92 (by decide) ?_
          exact ih12 (pi, (if (prN pt P pi).isSome = true ∧ pfa (P pi) &&& (orF pt P (nI pi) 24 ^^^ (-1)) = 0 then va_up P pi (qgn (P pi) 1) else P), upd ga0 pi 0, G88) _ _ _ ⟨⟨⟨by omega, by rw [hdr]; rfl, by
              have e31 : f = 31 := by omega
              rw [e31] at hbb
              first | (rw [if_neg (fun z => c76 ((hS.pr (by omega)).mp z.1).2)]; exact hS.still (by omega) c76) | (rw [if_pos ⟨(hS.pr (by omega)).mpr ⟨by omega, c76⟩, (sNeed hS (by omega) c76).mp (isOk hbb c80)⟩]; exact hS.gone (by omega)) | (rw [if_neg (fun z => isNo hbb c80 ((sNeed hS (by omega) c76).mpr z.2)), upd_same c76]; exact hS)⟩, hK, ⟨f88_mo, f88_u1, f88_u2, f88_u3, f88, f88_u5, f88_u6, f88_u7, n12, n45, n67⟩⟩, hG, lv_sub hl [1, 0] rfl⟩ (by first | omega | (simp only []; omega))
        · refine lv_iconst (v := 1) hx hb d_mo_drop_83 (by decide) ?_
          refine lv_goto (tgt := 88) hx hb d_mo_drop_84 (by decide) ?_
          refine g_zast S hE.1 hG hc412 2 rfl (vp_in_nI (by omega) (by omega)) d_mo_drop_88 (fun H locs hG => ?_)
          rw [nI_clamp (show pi < 2 ^ 31 by omega)] at hG
          have hG : gS (gA G s.heap.size) s.heap Z.1 cls (gup Gx u4 (.inl (Z.2 2, 24, .inl (upd ga0 pi 1)))) H locs := hG
          generalize eG88 : gup Gx u4 (.inl (Z.2 2, 24, .inl (upd ga0 pi 1))) = G88 at hG
          have f88_mo : G88 mo = some (.inr (4, [.int 0, .int (nI C), .int (nI E), .ref u1, .ref u2, .ref u3, .ref u4, .ref u5, .int (nI M), .int (nI D), .ref u6, .int fl, .ref u7])) := by rw [← eG88]; exact gup_keep hc412 hmo12 (by simp)
          have f88_u1 : G88 u1 = some (.inl (Z.2 1, 768, .inl cf)) := by rw [← eG88]; exact gup_keep hc412 hc112 (by simp)
          have f88_u2 : G88 u2 = some (.inl (Z.2 2, 768, .inl mf)) := by rw [← eG88]; exact gup_keep hc412 hc212 (by simp)
          have f88_u3 : G88 u3 = some (.inl (Z.2 2, 744, .inl ff)) := by rw [← eG88]; exact gup_keep hc412 hc312 (by simp)
          have f88_u5 : G88 u5 = some (.inl (Z.2 1, 24, .inl sf)) := by rw [← eG88]; exact (gup_ne _ _ (Ne.symm n45)).trans hc512
          have f88_u6 : G88 u6 = some (.inl (Z.2 2, 16, .inl tf)) := by rw [← eG88]; exact gup_keep hc412 hc612 (by simp)
          have f88_u7 : G88 u7 = some (.inl (Z.2 1, 16, .inl bf)) := by rw [← eG88]; exact gup_keep hc412 hc712 (by simp)
          have f88 : G88 u4 = some (.inl (Z.2 2, 24, .inl (upd ga0 pi 1))) := by rw [← eG88]; exact gup_self _ _ _
          have hK : gKe (moI mo u1 u2 u3 u4 u5 u6 u7) G G88 := by rw [← eG88]; exact hK.up (by simp [moI])
          refine lv_iinc (v := dn pi) (lv' := [(1, .int (dn pi)), (0, .ref mo), (2, .int b), (3, .int (nI f))]) hx hb d_mo_drop_89 hl (k := 1) rfl (dn_pred pi) (by decide) rfl (fun ls hl => ?_)
          refine lv_goto (tgt := 12) hx hb d_mo_drop_92 (by decide) ?_
          exact ih12 (pi, (if (prN pt P pi).isSome = true ∧ pfa (P pi) &&& (orF pt P (nI pi) 24 ^^^ (-1)) = 0 then va_up P pi (qgn (P pi) 1) else P), upd ga0 pi 1, G88) _ _ _ ⟨⟨⟨by omega, by rw [hdr]; rfl, by
              have e31 : f = 31 := by omega
              rw [e31] at hbb
              first | (rw [if_neg (fun z => c76 ((hS.pr (by omega)).mp z.1).2)]; exact hS.still (by omega) c76) | (rw [if_pos ⟨(hS.pr (by omega)).mpr ⟨by omega, c76⟩, (sNeed hS (by omega) c76).mp (isOk hbb c80)⟩]; exact hS.gone (by omega)) | (rw [if_neg (fun z => isNo hbb c80 ((sNeed hS (by omega) c76).mpr z.2)), upd_same c76]; exact hS)⟩, hK, ⟨f88_mo, f88_u1, f88_u2, f88_u3, f88, f88_u5, f88_u6, f88_u7, n12, n45, n67⟩⟩, hG, lv_sub hl [1, 0] rfl⟩ (by first | omega | (simp only []; omega))
    · refine lv_iload_n hx hb d_mo_drop_26 rfl (lv_at hl 2 rfl) ?_
      refine lv_if_eq (tgt := 57) hx hb d_mo_drop_27 (by decide) (fun c27 => ?_) (fun c27 => ?_)
      · refine lv_iconst (v := 0) hx hb d_mo_drop_57 (by decide) ?_
        refine lv_istore_n (lv' := [(2, .int 0), (0, .ref mo), (1, .int (nI pi)), (3, .int (nI f))]) hx hb d_mo_drop_58 rfl hl (by decide) rfl (fun ls hl => ?_)
        refine lv_iinc (v := nI (f + 1)) (lv' := [(3, .int (nI (f + 1))), (2, .int 0), (0, .ref mo), (1, .int (nI pi))]) hx hb d_mo_drop_59 hl (k := 3) rfl (show nI f + 1 = _ from nI_1 f) (by decide) rfl (fun ls hl => ?_)
        refine lv_goto (tgt := 20) hx hb d_mo_drop_62 (by decide) ?_
        exact ih20 ((f + 1), 0) _ ⟨⟨by omega, allStep hbb (by first | exact Or.inl ⟨rfl, c27, Or.inl c41⟩ | exact Or.inl ⟨rfl, c27, Or.inr c50⟩ | exact Or.inr ⟨rfl, Or.inl c27⟩ | exact Or.inr ⟨rfl, Or.inr (by rintro (z | z); exact c41 z; omega)⟩)⟩, lv_sub hl [2, 3, 1, 0] rfl⟩ (by first | omega | (simp only []; omega))
      · refine lv_aload_n hx hb d_mo_drop_30 rfl (lv_at hl 0 rfl) ?_
        refine g_get S hE.1 hG.1 hmo12 rfl in_mo 5 (by decide) tw_496 (fun _ h9 => h9) rfl d_mo_drop_31 ?_
        refine lv_bipush (v := nI 31) hx hb d_mo_drop_34 (by decide) ?_
        refine lv_iload_n hx hb d_mo_drop_36 rfl (lv_at hl 1 rfl) ?_
        refine lv_imul hx hb d_mo_drop_37 ?_
        refine g_topi (y := nI (31 * pi)) (pk_mul 31 pi) ?_
        refine lv_iload_n hx hb d_mo_drop_38 rfl (lv_at hl 3 rfl) ?_
        refine lv_iadd hx hb d_mo_drop_39 ?_
        refine g_topi (y := nI ((31 * pi) + f)) (nI_add (31 * pi) f) ?_
        refine g_zald S hE.1 hG.1 hc312 2 rfl (vp_in_nI (by omega) (by omega)) d_mo_drop_40 ?_
        refine g_topi (congrArg ff (nI_clamp (show ((31 * pi) + f) < 2 ^ 31 by omega))) ?_
        refine lv_if_eq (tgt := 53) hx hb d_mo_drop_41 (by decide) (fun c41 => ?_) (fun c41 => ?_)
        · refine lv_iconst (v := 1) hx hb d_mo_drop_53 (by decide) ?_
          refine lv_goto (tgt := 58) hx hb d_mo_drop_54 (by decide) ?_
          refine lv_istore_n (lv' := [(2, .int 1), (0, .ref mo), (1, .int (nI pi)), (3, .int (nI f))]) hx hb d_mo_drop_58 rfl hl (by decide) rfl (fun ls hl => ?_)
          refine lv_iinc (v := nI (f + 1)) (lv' := [(3, .int (nI (f + 1))), (2, .int 1), (0, .ref mo), (1, .int (nI pi))]) hx hb d_mo_drop_59 hl (k := 3) rfl (show nI f + 1 = _ from nI_1 f) (by decide) rfl (fun ls hl => ?_)
          refine lv_goto (tgt := 20) hx hb d_mo_drop_62 (by decide) ?_
          exact ih20 ((f + 1), 1) _ ⟨⟨by omega, allStep hbb (by first | exact Or.inl ⟨rfl, c27, Or.inl c41⟩ | exact Or.inl ⟨rfl, c27, Or.inr c50⟩ | exact Or.inr ⟨rfl, Or.inl c27⟩ | exact Or.inr ⟨rfl, Or.inr (by rintro (z | z); exact c41 z; omega)⟩)⟩, lv_sub hl [2, 3, 1, 0] rfl⟩ (by first | omega | (simp only []; omega))
        · refine lv_aload_n hx hb d_mo_drop_44 rfl (lv_at hl 0 rfl) ?_
          refine lv_iload_n hx hb d_mo_drop_45 rfl (lv_at hl 3 rfl) ?_
          refine g_reti (g_runV (As := [.int (nI f)]) (rest := []) S lk_mo_67 k_mo_findersOf (c_mo_findersOf l Z Gx mo ⟨hmo12, hc112, hc212, hc312, hc412, hc512, hc612, hc712, n12, n45, n67⟩ hS f (by omega)) ⟨rfl, rfl⟩ ⟨Nat.le_of_ble_eq_true rfl, Nat.le_of_ble_eq_true rfl⟩ (gPreV hG.1 hE hmo12 rfl) rfl hl.1 rfl (Nat.le_of_ble_eq_true rfl) d_mo_drop_46 ⟨Nat.le_of_ble_eq_true rfl, Nat.le_of_ble_eq_true rfl⟩) (fun r46 h46 => ?_)
          refine g_topi (y := nI (cntF pt P (on1 f) 24)) h46 ?_
          have hcl := cntF_le pt P (on1 f) 24
          refine lv_iconst (v := nI 1) hx hb d_mo_drop_49 (by decide) ?_
          refine g_le (tgt := 57) hx hb d_mo_drop_50 (by decide) (by omega) (by omega) (fun c50 => ?_) (fun c50 => ?_)
          · refine lv_iconst (v := 0) hx hb d_mo_drop_57 (by decide) ?_
            refine lv_istore_n (lv' := [(2, .int 0), (0, .ref mo), (1, .int (nI pi)), (3, .int (nI f))]) hx hb d_mo_drop_58 rfl hl (by decide) rfl (fun ls hl => ?_)
            refine lv_iinc (v := nI (f + 1)) (lv' := [(3, .int (nI (f + 1))), (2, .int 0), (0, .ref mo), (1, .int (nI pi))]) hx hb d_mo_drop_59 hl (k := 3) rfl (show nI f + 1 = _ from nI_1 f) (by decide) rfl (fun ls hl => ?_)
            refine lv_goto (tgt := 20) hx hb d_mo_drop_62 (by decide) ?_
            exact ih20 ((f + 1), 0) _ ⟨⟨by omega, allStep hbb (by first | exact Or.inl ⟨rfl, c27, Or.inl c41⟩ | exact Or.inl ⟨rfl, c27, Or.inr c50⟩ | exact Or.inr ⟨rfl, Or.inl c27⟩ | exact Or.inr ⟨rfl, Or.inr (by rintro (z | z); exact c41 z; omega)⟩)⟩, lv_sub hl [2, 3, 1, 0] rfl⟩ (by first | omega | (simp only []; omega))
          · refine lv_iconst (v := 1) hx hb d_mo_drop_53 (by decide) ?_
            refine lv_goto (tgt := 58) hx hb d_mo_drop_54 (by decide) ?_
            refine lv_istore_n (lv' := [(2, .int 1), (0, .ref mo), (1, .int (nI pi)), (3, .int (nI f))]) hx hb d_mo_drop_58 rfl hl (by decide) rfl (fun ls hl => ?_)
            refine lv_iinc (v := nI (f + 1)) (lv' := [(3, .int (nI (f + 1))), (2, .int 1), (0, .ref mo), (1, .int (nI pi))]) hx hb d_mo_drop_59 hl (k := 3) rfl (show nI f + 1 = _ from nI_1 f) (by decide) rfl (fun ls hl => ?_)
            refine lv_goto (tgt := 20) hx hb d_mo_drop_62 (by decide) ?_
            exact ih20 ((f + 1), 1) _ ⟨⟨by omega, allStep hbb (by first | exact Or.inl ⟨rfl, c27, Or.inl c41⟩ | exact Or.inl ⟨rfl, c27, Or.inr c50⟩ | exact Or.inr ⟨rfl, Or.inl c27⟩ | exact Or.inr ⟨rfl, Or.inr (by rintro (z | z); exact c41 z; omega)⟩)⟩, lv_sub hl [2, 3, 1, 0] rfl⟩ (by first | omega | (simp only []; omega))

set_option maxHeartbeats 600000 in
set_option maxRecDepth 100000 in
theorem c_mo_count (l : Launch) (Z : gZ) (G : gh) (sz : Nat) (mo : Nat) {u1 u2 u3 u4 u5 u6 u7 : Nat} {th : Int32} {C E M D : Nat} {fl tp : Int32} {pt : Nat → Option Nat} {pd : Nat → Pat} (hQ : moQ Z G mo u1 u2 u3 u4 u5 u6 u7 th C E M D fl tp pt pd) (w0 : Int32) : Met l y_mo_count (wd_mo_count :: Gall) ({ frames := 1, cells := 0, slots := 0, locals := 23 }) (va_Pc [.ref mo, .int w0] (gPw Z G sz)) (va_Qi (fun (r : Int32) (G9 : gh) => gKe (moI mo u1 u2 u3 u4 u5 u6 u7) G G9 ∧ (((¬ ∃ j, j < 5 ∧ w0 = nI j) ∧ moQ Z G9 mo u1 u2 u3 u4 u5 u6 u7 1 C E M D fl tp pt pd) ∨ (∃ j, j < 5 ∧ w0 = nI j ∧ moQ Z G9 mo u1 u2 u3 u4 u5 u6 u7 0 C E M D fl tp pt pd ∧ r = cnC (nI D) pt pd j))) (gW Z G sz) (gA G sz)) 0 0 (gA G sz) := by
  refine Met.ofW (cc := b_mo_count) (maxL := 5) (ret := (some .int)) (by decide) rfl ?_
  intro p e s m args below meth c s₁ B hml hv
  obtain ⟨rfl, hsz, hG, hE⟩ := hv
  subst hsz
  have hx := B.exec
  have hb := B.bytes
  have hr := B.returns
  have hlocks := B.notSynchronized
  have S : CallFix p m c b_mo_count 5 s _ Gall "PackSeedsModel" := ⟨hx, hb, hml, findClass_of_methodNamed B.named, fun w hw => atoms_spec (ws := wd_mo_count :: Gall) B.pre w (List.mem_cons_of_mem _ hw)⟩
  have hG : gS (gA G s.heap.size) s.heap Z.1 cls G s.heap [] := gS.start hG
  have hl := lv_entry ([.ref mo, .int w0]) (n := 5) (Nat.le_of_ble_eq_true rfl)
  rw [lg_entry_eq]
  generalize (lg_sl ([.ref mo, .int w0]) ++ List.replicate (5 - (lg_sl ([.ref mo, .int w0])).length) Slot.unset).toArray = ls at hl ⊢
  have hl : lv_has ls 5 [(0, .ref mo), (1, .int w0)] := hl
  have hK : gKe (moI mo u1 u2 u3 u4 u5 u6 u7) G G := gKe.rf
  obtain ⟨cf, mf, ff, gf, sf, tf, bf, hP, hR, hT, hC, hE8, hfl⟩ := hQ
  have hP0 := hP
  obtain ⟨hmo, hc1, hc2, hc3, hc4, hc5, hc6, hc7, n12, n45, n67⟩ := hP
  have hM24 := hR.1
  have hD1 := hT.1
  have hD16 := hT.2.1
  refine lv_aload_n hx hb d_mo_count_0 rfl (lv_at hl 0 rfl) ?_
  refine lv_iload_n hx hb d_mo_count_1 rfl (lv_at hl 1 rfl) ?_
  refine lv_if_lt (tgt := 14) hx hb d_mo_count_2 (by decide) (fun c2 => ?_) (fun c2 => ?_)
  · refine lv_iconst (v := 1) hx hb d_mo_count_14 (by decide) ?_
    refine g_put S hE.1 hG hmo rfl in_mo ty_mo tyok_mo nm_mo 0 (by decide) tw_491 (fun _ h9 => h9) rfl (ty := .int) (by decide +kernel) rfl rfl (Nat.le_of_ble_eq_true rfl) d_mo_count_15 (fun H locs hG => ?_)
    have hG : gS (gA G s.heap.size) s.heap Z.1 cls (gup G mo (.inr (4, [.int 1, .int (nI C), .int (nI E), .ref u1, .ref u2, .ref u3, .ref u4, .ref u5, .int (nI M), .int (nI D), .ref u6, .int fl, .ref u7]))) H locs := hG
    generalize eG15 : gup G mo (.inr (4, [.int 1, .int (nI C), .int (nI E), .ref u1, .ref u2, .ref u3, .ref u4, .ref u5, .int (nI M), .int (nI D), .ref u6, .int fl, .ref u7])) = G15 at hG
    have f15_u1 : G15 u1 = some (.inl (Z.2 1, 768, .inl cf)) := by rw [← eG15]; exact gup_keep hmo hc1 (by simp)
    have f15_u2 : G15 u2 = some (.inl (Z.2 2, 768, .inl mf)) := by rw [← eG15]; exact gup_keep hmo hc2 (by simp)
    have f15_u3 : G15 u3 = some (.inl (Z.2 2, 744, .inl ff)) := by rw [← eG15]; exact gup_keep hmo hc3 (by simp)
    have f15_u4 : G15 u4 = some (.inl (Z.2 2, 24, .inl gf)) := by rw [← eG15]; exact gup_keep hmo hc4 (by simp)
    have f15_u5 : G15 u5 = some (.inl (Z.2 1, 24, .inl sf)) := by rw [← eG15]; exact gup_keep hmo hc5 (by simp)
    have f15_u6 : G15 u6 = some (.inl (Z.2 2, 16, .inl tf)) := by rw [← eG15]; exact gup_keep hmo hc6 (by simp)
    have f15_u7 : G15 u7 = some (.inl (Z.2 1, 16, .inl bf)) := by rw [← eG15]; exact gup_keep hmo hc7 (by simp)
    have f15 : G15 mo = some (.inr (4, [.int 1, .int (nI C), .int (nI E), .ref u1, .ref u2, .ref u3, .ref u4, .ref u5, .int (nI M), .int (nI D), .ref u6, .int fl, .ref u7])) := by rw [← eG15]; exact gup_self _ _ _
    have hK : gKe (moI mo u1 u2 u3 u4 u5 u6 u7) G G15 := by rw [← eG15]; exact hK.up (by simp [moI])
    have hw4 : ¬ w0 = 4 := fun z => by first | (rw [z] at c2; exact absurd c2 (by decide)) | (rw [z] at c7; exact absurd c7 (by decide))
    refine lv_iconst (v := nI 0) hx hb d_mo_count_18 (by decide) ?_
    refine lv_istore_n (lv' := [(2, .int (nI 0)), (0, .ref mo), (1, .int w0)]) hx hb d_mo_count_19 rfl hl (by decide) rfl (fun ls hl => ?_)
    refine lv_iconst (v := nI 0) hx hb d_mo_count_20 (by decide) ?_
    refine lv_istore_n (lv' := [(3, .int (nI 0)), (2, .int (nI 0)), (0, .ref mo), (1, .int w0)]) hx hb d_mo_count_21 rfl hl (by decide) rfl (fun ls hl => ?_)
    refine lv_aload_n hx hb d_mo_count_22 rfl (lv_at hl 2 rfl) ?_
    refine g_get S hE.1 hG.1 f15 rfl in_mo 0 (by decide) tw_491 (fun _ h9 => h9) rfl d_mo_count_23 ?_
    refine lv_if_ne (tgt := 124) hx hb d_mo_count_26 (by decide) (fun c26 => ?_) (fun c26 => absurd c26 (by decide))
    refine lv_iconst (v := nI 0) hx hb d_mo_count_124 (by decide) ?_
    refine lv_istore_n (lv' := [(3, .int (nI 0)), (2, .int (nI 0)), (0, .ref mo), (1, .int w0)]) hx hb d_mo_count_125 rfl hl (by decide) rfl (fun ls hl => ?_)
    refine lv_iload_n hx hb d_mo_count_126 rfl (lv_at hl 0 rfl) ?_
    refine lv_bipush (v := nI 31) hx hb d_mo_count_127 (by decide) ?_
    refine g_ge (tgt := 159) hx hb d_mo_count_129 (by decide) (by omega) (by omega) (fun c129 => absurd c129 (by decide)) (fun c129 => ?_)
    refine lv_iload_n hx hb d_mo_count_132 rfl (lv_at hl 3 rfl) ?_
    refine lv_iconst (v := 4) hx hb d_mo_count_133 (by decide) ?_
    refine lv_icmp_ne (tgt := 159) hx hb d_mo_count_134 (by decide) (fun c134 => ?_) (fun c134 => absurd c134 hw4)
    refine lv_aload_n hx hb d_mo_count_159 rfl (lv_at hl 2 rfl) ?_
    refine g_get S hE.1 hG.1 f15 rfl in_mo 0 (by decide) tw_491 (fun _ h9 => h9) rfl d_mo_count_160 ?_
    refine lv_if_le (tgt := 170) hx hb d_mo_count_163 (by decide) (fun c163 => absurd c163 (by decide)) (fun c163 => ?_)
    refine lv_iconst (v := 0) hx hb d_mo_count_166 (by decide) ?_
    refine lv_goto (tgt := 183) hx hb d_mo_count_167 (by decide) ?_
    refine W.widen (k := 0) (n := 0) (Nat.le_of_ble_eq_true rfl) (Nat.le_of_ble_eq_true rfl) ?_
    exact (W.iret hx hb hr (fun t9 ht9 hW9 => ⟨⟨_, _, rfl, ⟨hK, Or.inl ⟨(by rintro ⟨k, hk, rfl⟩; first | exact absurd c2 (nI_pos (by omega)) | exact absurd c7 (Int32.not_lt.mpr (nI_le (b := 4) (by omega) (by omega)))), ⟨_, _, _, _, _, _, _, ⟨f15, f15_u1, f15_u2, f15_u3, f15_u4, f15_u5, f15_u6, f15_u7, n12, n45, n67⟩, hR, hT, hC, hE8, hfl⟩⟩⟩, by rw [ht9]; exact hG.1, hG.2.1⟩, hG.2.2.1.F ht9⟩) hG.2.2.1.2.2 d_mo_count_183)
  · refine lv_iload_n hx hb d_mo_count_5 rfl (lv_at hl 1 rfl) ?_
    refine lv_iconst (v := 4) hx hb d_mo_count_6 (by decide) ?_
    refine lv_icmp_gt (tgt := 14) hx hb d_mo_count_7 (by decide) (fun c7 => ?_) (fun c7 => ?_)
    · refine lv_iconst (v := 1) hx hb d_mo_count_14 (by decide) ?_
      refine g_put S hE.1 hG hmo rfl in_mo ty_mo tyok_mo nm_mo 0 (by decide) tw_491 (fun _ h9 => h9) rfl (ty := .int) (by decide +kernel) rfl rfl (Nat.le_of_ble_eq_true rfl) d_mo_count_15 (fun H locs hG => ?_)
      have hG : gS (gA G s.heap.size) s.heap Z.1 cls (gup G mo (.inr (4, [.int 1, .int (nI C), .int (nI E), .ref u1, .ref u2, .ref u3, .ref u4, .ref u5, .int (nI M), .int (nI D), .ref u6, .int fl, .ref u7]))) H locs := hG
      generalize eG15 : gup G mo (.inr (4, [.int 1, .int (nI C), .int (nI E), .ref u1, .ref u2, .ref u3, .ref u4, .ref u5, .int (nI M), .int (nI D), .ref u6, .int fl, .ref u7])) = G15 at hG
      have f15_u1 : G15 u1 = some (.inl (Z.2 1, 768, .inl cf)) := by rw [← eG15]; exact gup_keep hmo hc1 (by simp)
      have f15_u2 : G15 u2 = some (.inl (Z.2 2, 768, .inl mf)) := by rw [← eG15]; exact gup_keep hmo hc2 (by simp)
      have f15_u3 : G15 u3 = some (.inl (Z.2 2, 744, .inl ff)) := by rw [← eG15]; exact gup_keep hmo hc3 (by simp)
      have f15_u4 : G15 u4 = some (.inl (Z.2 2, 24, .inl gf)) := by rw [← eG15]; exact gup_keep hmo hc4 (by simp)
      have f15_u5 : G15 u5 = some (.inl (Z.2 1, 24, .inl sf)) := by rw [← eG15]; exact gup_keep hmo hc5 (by simp)
      have f15_u6 : G15 u6 = some (.inl (Z.2 2, 16, .inl tf)) := by rw [← eG15]; exact gup_keep hmo hc6 (by simp)
      have f15_u7 : G15 u7 = some (.inl (Z.2 1, 16, .inl bf)) := by rw [← eG15]; exact gup_keep hmo hc7 (by simp)
      have f15 : G15 mo = some (.inr (4, [.int 1, .int (nI C), .int (nI E), .ref u1, .ref u2, .ref u3, .ref u4, .ref u5, .int (nI M), .int (nI D), .ref u6, .int fl, .ref u7])) := by rw [← eG15]; exact gup_self _ _ _
      have hK : gKe (moI mo u1 u2 u3 u4 u5 u6 u7) G G15 := by rw [← eG15]; exact hK.up (by simp [moI])
      have hw4 : ¬ w0 = 4 := fun z => by first | (rw [z] at c2; exact absurd c2 (by decide)) | (rw [z] at c7; exact absurd c7 (by decide))
      refine lv_iconst (v := nI 0) hx hb d_mo_count_18 (by decide) ?_
      refine lv_istore_n (lv' := [(2, .int (nI 0)), (0, .ref mo), (1, .int w0)]) hx hb d_mo_count_19 rfl hl (by decide) rfl (fun ls hl => ?_)
      refine lv_iconst (v := nI 0) hx hb d_mo_count_20 (by decide) ?_
      refine lv_istore_n (lv' := [(3, .int (nI 0)), (2, .int (nI 0)), (0, .ref mo), (1, .int w0)]) hx hb d_mo_count_21 rfl hl (by decide) rfl (fun ls hl => ?_)
      refine lv_aload_n hx hb d_mo_count_22 rfl (lv_at hl 2 rfl) ?_
      refine g_get S hE.1 hG.1 f15 rfl in_mo 0 (by decide) tw_491 (fun _ h9 => h9) rfl d_mo_count_23 ?_
      refine lv_if_ne (tgt := 124) hx hb d_mo_count_26 (by decide) (fun c26 => ?_) (fun c26 => absurd c26 (by decide))
      refine lv_iconst (v := nI 0) hx hb d_mo_count_124 (by decide) ?_
      refine lv_istore_n (lv' := [(3, .int (nI 0)), (2, .int (nI 0)), (0, .ref mo), (1, .int w0)]) hx hb d_mo_count_125 rfl hl (by decide) rfl (fun ls hl => ?_)
      refine lv_iload_n hx hb d_mo_count_126 rfl (lv_at hl 0 rfl) ?_
      refine lv_bipush (v := nI 31) hx hb d_mo_count_127 (by decide) ?_
      refine g_ge (tgt := 159) hx hb d_mo_count_129 (by decide) (by omega) (by omega) (fun c129 => absurd c129 (by decide)) (fun c129 => ?_)
      refine lv_iload_n hx hb d_mo_count_132 rfl (lv_at hl 3 rfl) ?_
      refine lv_iconst (v := 4) hx hb d_mo_count_133 (by decide) ?_
      refine lv_icmp_ne (tgt := 159) hx hb d_mo_count_134 (by decide) (fun c134 => ?_) (fun c134 => absurd c134 hw4)
      refine lv_aload_n hx hb d_mo_count_159 rfl (lv_at hl 2 rfl) ?_
      refine g_get S hE.1 hG.1 f15 rfl in_mo 0 (by decide) tw_491 (fun _ h9 => h9) rfl d_mo_count_160 ?_
      refine lv_if_le (tgt := 170) hx hb d_mo_count_163 (by decide) (fun c163 => absurd c163 (by decide)) (fun c163 => ?_)
      refine lv_iconst (v := 0) hx hb d_mo_count_166 (by decide) ?_
      refine lv_goto (tgt := 183) hx hb d_mo_count_167 (by decide) ?_
      refine W.widen (k := 0) (n := 0) (Nat.le_of_ble_eq_true rfl) (Nat.le_of_ble_eq_true rfl) ?_
      exact (W.iret hx hb hr (fun t9 ht9 hW9 => ⟨⟨_, _, rfl, ⟨hK, Or.inl ⟨(by rintro ⟨k, hk, rfl⟩; first | exact absurd c2 (nI_pos (by omega)) | exact absurd c7 (Int32.not_lt.mpr (nI_le (b := 4) (by omega) (by omega)))), ⟨_, _, _, _, _, _, _, ⟨f15, f15_u1, f15_u2, f15_u3, f15_u4, f15_u5, f15_u6, f15_u7, n12, n45, n67⟩, hR, hT, hC, hE8, hfl⟩⟩⟩, by rw [ht9]; exact hG.1, hG.2.1⟩, hG.2.2.1.F ht9⟩) hG.2.2.1.2.2 d_mo_count_183)
    · refine lv_iconst (v := 0) hx hb d_mo_count_10 (by decide) ?_
      refine lv_goto (tgt := 15) hx hb d_mo_count_11 (by decide) ?_
      refine g_put S hE.1 hG hmo rfl in_mo ty_mo tyok_mo nm_mo 0 (by decide) tw_491 (fun _ h9 => h9) rfl (ty := .int) (by decide +kernel) rfl rfl (Nat.le_of_ble_eq_true rfl) d_mo_count_15 (fun H locs hG => ?_)
      have hG : gS (gA G s.heap.size) s.heap Z.1 cls (gup G mo (.inr (4, [.int 0, .int (nI C), .int (nI E), .ref u1, .ref u2, .ref u3, .ref u4, .ref u5, .int (nI M), .int (nI D), .ref u6, .int fl, .ref u7]))) H locs := hG
      generalize eG15 : gup G mo (.inr (4, [.int 0, .int (nI C), .int (nI E), .ref u1, .ref u2, .ref u3, .ref u4, .ref u5, .int (nI M), .int (nI D), .ref u6, .int fl, .ref u7])) = G15 at hG
      have f15_u1 : G15 u1 = some (.inl (Z.2 1, 768, .inl cf)) := by rw [← eG15]; exact gup_keep hmo hc1 (by simp)
      have f15_u2 : G15 u2 = some (.inl (Z.2 2, 768, .inl mf)) := by rw [← eG15]; exact gup_keep hmo hc2 (by simp)
      have f15_u3 : G15 u3 = some (.inl (Z.2 2, 744, .inl ff)) := by rw [← eG15]; exact gup_keep hmo hc3 (by simp)
      have f15_u4 : G15 u4 = some (.inl (Z.2 2, 24, .inl gf)) := by rw [← eG15]; exact gup_keep hmo hc4 (by simp)
      have f15_u5 : G15 u5 = some (.inl (Z.2 1, 24, .inl sf)) := by rw [← eG15]; exact gup_keep hmo hc5 (by simp)
      have f15_u6 : G15 u6 = some (.inl (Z.2 2, 16, .inl tf)) := by rw [← eG15]; exact gup_keep hmo hc6 (by simp)
      have f15_u7 : G15 u7 = some (.inl (Z.2 1, 16, .inl bf)) := by rw [← eG15]; exact gup_keep hmo hc7 (by simp)
      have f15 : G15 mo = some (.inr (4, [.int 0, .int (nI C), .int (nI E), .ref u1, .ref u2, .ref u3, .ref u4, .ref u5, .int (nI M), .int (nI D), .ref u6, .int fl, .ref u7])) := by rw [← eG15]; exact gup_self _ _ _
      have hK : gKe (moI mo u1 u2 u3 u4 u5 u6 u7) G G15 := by rw [← eG15]; exact hK.up (by simp [moI])
      obtain ⟨jw, hjw, ejw⟩ := rng4 c2 (Int32.not_lt.mp c7)
      subst ejw
      rcases (show jw = 0 ∨ jw = 1 ∨ jw = 2 ∨ jw = 3 ∨ jw = 4 by omega) with rfl | rfl | rfl | rfl | rfl
      · have hl : lv_has ls 5 [(0, .ref mo), (1, .int 0)] := hl
        refine lv_iconst (v := nI 0) hx hb d_mo_count_18 (by decide) ?_
        refine lv_istore_n (lv' := [(2, .int (nI 0)), (0, .ref mo), (1, .int 0)]) hx hb d_mo_count_19 rfl hl (by decide) rfl (fun ls hl => ?_)
        refine lv_iconst (v := nI 0) hx hb d_mo_count_20 (by decide) ?_
        refine lv_istore_n (lv' := [(3, .int (nI 0)), (2, .int (nI 0)), (0, .ref mo), (1, .int 0)]) hx hb d_mo_count_21 rfl hl (by decide) rfl (fun ls hl => ?_)
        refine g_ind (V := Nat × Nat) (fun (i, n) ls => (i ≤ M ∧ n = cntP pt pd i) ∧ lv_has ls 5 [(0, .ref mo), (1, .int 0), (2, .int (nI n)), (3, .int (nI i))]) (fun (i, n) => M - i) ?_ (0, 0) _ ⟨⟨Nat.zero_le _, rfl⟩, lv_sub hl [2, 3, 1, 0] rfl⟩
        intro v ls hI ih22
        obtain ⟨i, n⟩ := v
        obtain ⟨⟨hi, hn⟩, hl⟩ := hI
        refine lv_aload_n hx hb d_mo_count_22 rfl (lv_at hl 0 rfl) ?_
        refine g_get S hE.1 hG.1 f15 rfl in_mo 0 (by decide) tw_491 (fun _ h9 => h9) rfl d_mo_count_23 ?_
        refine lv_if_ne (tgt := 124) hx hb d_mo_count_26 (by decide) (fun c26 => absurd c26 (by decide)) (fun c26 => ?_)
        refine lv_iload_n hx hb d_mo_count_29 rfl (lv_at hl 3 rfl) ?_
        refine lv_aload_n hx hb d_mo_count_30 rfl (lv_at hl 0 rfl) ?_
        refine g_get S hE.1 hG.1 f15 rfl in_mo 8 (by decide) tw_499 (fun _ h9 => h9) rfl d_mo_count_31 ?_
        refine g_ge (tgt := 124) hx hb d_mo_count_34 (by decide) (by omega) (by omega) (fun c34 => ?_) (fun c34 => ?_)
        · refine lv_iconst (v := nI 0) hx hb d_mo_count_124 (by decide) ?_
          refine lv_istore_n (lv' := [(3, .int (nI 0)), (0, .ref mo), (1, .int 0), (2, .int (nI n))]) hx hb d_mo_count_125 rfl hl (by decide) rfl (fun ls hl => ?_)
          refine lv_iload_n hx hb d_mo_count_126 rfl (lv_at hl 0 rfl) ?_
          refine lv_bipush (v := nI 31) hx hb d_mo_count_127 (by decide) ?_
          refine g_ge (tgt := 159) hx hb d_mo_count_129 (by decide) (by omega) (by omega) (fun c129 => absurd c129 (by decide)) (fun c129 => ?_)
          refine lv_iload_n hx hb d_mo_count_132 rfl (lv_at hl 2 rfl) ?_
          refine lv_iconst (v := 4) hx hb d_mo_count_133 (by decide) ?_
          refine lv_icmp_ne (tgt := 159) hx hb d_mo_count_134 (by decide) (fun c134 => ?_) (fun c134 => absurd c134 (by decide))
          refine lv_aload_n hx hb d_mo_count_159 rfl (lv_at hl 1 rfl) ?_
          refine g_get S hE.1 hG.1 f15 rfl in_mo 0 (by decide) tw_491 (fun _ h9 => h9) rfl d_mo_count_160 ?_
          refine lv_if_le (tgt := 170) hx hb d_mo_count_163 (by decide) (fun c163 => ?_) (fun c163 => absurd c163 (by decide))
          refine lv_iload_n hx hb d_mo_count_170 rfl (lv_at hl 2 rfl) ?_
          refine lv_iconst (v := 3) hx hb d_mo_count_171 (by decide) ?_
          refine lv_icmp_ne (tgt := 182) hx hb d_mo_count_172 (by decide) (fun c172 => ?_) (fun c172 => absurd c172 (by decide))
          refine lv_iload_n hx hb d_mo_count_182 rfl (lv_at hl 3 rfl) ?_
          refine W.widen (k := 0) (n := 0) (Nat.le_of_ble_eq_true rfl) (Nat.le_of_ble_eq_true rfl) ?_
          exact (W.iret hx hb hr (fun t9 ht9 hW9 => ⟨⟨_, _, rfl, ⟨hK, Or.inr ⟨0, by omega, rfl, ⟨_, _, _, _, _, _, _, ⟨f15, f15_u1, f15_u2, f15_u3, f15_u4, f15_u5, f15_u6, f15_u7, n12, n45, n67⟩, hR, hT, hC, hE8, hfl⟩, by rw [hn, show i = M by omega, ← hR.cntP]; rfl⟩⟩, by rw [ht9]; exact hG.1, hG.2.1⟩, hG.2.2.1.F ht9⟩) hG.2.2.1.2.2 d_mo_count_183)
        · refine lv_aload_n hx hb d_mo_count_37 rfl (lv_at hl 0 rfl) ?_
          refine g_get S hE.1 hG.1 f15 rfl in_mo 6 (by decide) tw_497 (fun _ h9 => h9) rfl d_mo_count_38 ?_
          refine lv_iload_n hx hb d_mo_count_41 rfl (lv_at hl 3 rfl) ?_
          refine g_zald S hE.1 hG.1 f15_u4 2 rfl (vp_in_nI (by omega) (by omega)) d_mo_count_42 ?_
          refine g_topi (congrArg gf (nI_clamp (show i < 2 ^ 31 by omega))) ?_
          refine lv_if_ne (tgt := 118) hx hb d_mo_count_43 (by decide) (fun c43 => ?_) (fun c43 => ?_)
          · refine lv_iinc (v := nI (i + 1)) (lv' := [(3, .int (nI (i + 1))), (0, .ref mo), (1, .int 0), (2, .int (nI n))]) hx hb d_mo_count_118 hl (k := 3) rfl (show nI i + 1 = _ from nI_1 i) (by decide) rfl (fun ls hl => ?_)
            refine lv_goto (tgt := 22) hx hb d_mo_count_121 (by decide) ?_
            exact ih22 ((i + 1), n) _ ⟨⟨by omega, by
                subst hn; simp only [cntP, itr_s]
                first | rw [if_pos ((hR.pr (by omega)).mpr ⟨by omega, c43⟩)] | rw [if_neg (fun z => c43 ((hR.pr (by omega)).mp z).2)]⟩, lv_sub hl [1, 2, 3, 0] rfl⟩ (by first | omega | (simp only []; omega))
          · refine lv_iload_n hx hb d_mo_count_46 rfl (lv_at hl 1 rfl) ?_
            refine lv_if_eq (tgt := 65) hx hb d_mo_count_47 (by decide) (fun c47 => ?_) (fun c47 => absurd c47 (by decide))
            refine lv_iload_n hx hb d_mo_count_65 rfl (lv_at hl 2 rfl) ?_
            refine lv_iconst (v := nI 1) hx hb d_mo_count_66 (by decide) ?_
            refine lv_iadd hx hb d_mo_count_67 ?_
            refine g_topi (y := nI (n + 1)) (nI_add n 1) ?_
            refine lv_goto (tgt := 72) hx hb d_mo_count_68 (by decide) ?_
            refine lv_istore_n (lv' := [(2, .int (nI (n + 1))), (0, .ref mo), (1, .int 0), (3, .int (nI i))]) hx hb d_mo_count_72 rfl hl (by decide) rfl (fun ls hl => ?_)
            refine lv_iconst (v := nI 0) hx hb d_mo_count_73 (by decide) ?_
            refine lv_istore (lv' := [(4, .int (nI 0)), (2, .int (nI (n + 1))), (0, .ref mo), (1, .int 0), (3, .int (nI i))]) hx hb d_mo_count_74 hl (by decide) rfl (fun ls hl => ?_)
            refine lv_iload hx hb d_mo_count_76 (lv_at hl 0 rfl) ?_
            refine lv_bipush (v := nI 32) hx hb d_mo_count_78 (by decide) ?_
            refine g_ge (tgt := 118) hx hb d_mo_count_80 (by decide) (by omega) (by omega) (fun c80 => absurd c80 (by decide)) (fun c80 => ?_)
            refine lv_iload_n hx hb d_mo_count_83 rfl (lv_at hl 3 rfl) ?_
            refine lv_iconst (v := 2) hx hb d_mo_count_84 (by decide) ?_
            refine lv_icmp_ne (tgt := 118) hx hb d_mo_count_85 (by decide) (fun c85 => ?_) (fun c85 => absurd c85 (by decide))
            refine lv_iinc (v := nI (i + 1)) (lv' := [(3, .int (nI (i + 1))), (4, .int (nI 0)), (2, .int (nI (n + 1))), (0, .ref mo), (1, .int 0)]) hx hb d_mo_count_118 hl (k := 4) rfl (show nI i + 1 = _ from nI_1 i) (by decide) rfl (fun ls hl => ?_)
            refine lv_goto (tgt := 22) hx hb d_mo_count_121 (by decide) ?_
            exact ih22 ((i + 1), (n + 1)) _ ⟨⟨by omega, by
                subst hn; simp only [cntP, itr_s]
                first | rw [if_pos ((hR.pr (by omega)).mpr ⟨by omega, c43⟩)] | rw [if_neg (fun z => c43 ((hR.pr (by omega)).mp z).2)]⟩, lv_sub hl [3, 4, 2, 0] rfl⟩ (by first | omega | (simp only []; omega))
      · have hl : lv_has ls 5 [(0, .ref mo), (1, .int 1)] := hl
        refine lv_iconst (v := nI 0) hx hb d_mo_count_18 (by decide) ?_
        refine lv_istore_n (lv' := [(2, .int (nI 0)), (0, .ref mo), (1, .int 1)]) hx hb d_mo_count_19 rfl hl (by decide) rfl (fun ls hl => ?_)
        refine lv_iconst (v := nI 0) hx hb d_mo_count_20 (by decide) ?_
        refine lv_istore_n (lv' := [(3, .int (nI 0)), (2, .int (nI 0)), (0, .ref mo), (1, .int 1)]) hx hb d_mo_count_21 rfl hl (by decide) rfl (fun ls hl => ?_)
        refine g_ind (V := Nat × Nat) (fun (i, n) ls => (i ≤ M ∧ n = cntS pt pd i) ∧ lv_has ls 5 [(0, .ref mo), (1, .int 1), (2, .int (nI n)), (3, .int (nI i))]) (fun (i, n) => M - i) ?_ (0, 0) _ ⟨⟨Nat.zero_le _, rfl⟩, lv_sub hl [2, 3, 1, 0] rfl⟩
        intro v ls hI ih22
        obtain ⟨i, n⟩ := v
        obtain ⟨⟨hi, hn⟩, hl⟩ := hI
        refine lv_aload_n hx hb d_mo_count_22 rfl (lv_at hl 0 rfl) ?_
        refine g_get S hE.1 hG.1 f15 rfl in_mo 0 (by decide) tw_491 (fun _ h9 => h9) rfl d_mo_count_23 ?_
        refine lv_if_ne (tgt := 124) hx hb d_mo_count_26 (by decide) (fun c26 => absurd c26 (by decide)) (fun c26 => ?_)
        refine lv_iload_n hx hb d_mo_count_29 rfl (lv_at hl 3 rfl) ?_
        refine lv_aload_n hx hb d_mo_count_30 rfl (lv_at hl 0 rfl) ?_
        refine g_get S hE.1 hG.1 f15 rfl in_mo 8 (by decide) tw_499 (fun _ h9 => h9) rfl d_mo_count_31 ?_
        refine g_ge (tgt := 124) hx hb d_mo_count_34 (by decide) (by omega) (by omega) (fun c34 => ?_) (fun c34 => ?_)
        · refine lv_iconst (v := nI 0) hx hb d_mo_count_124 (by decide) ?_
          refine lv_istore_n (lv' := [(3, .int (nI 0)), (0, .ref mo), (1, .int 1), (2, .int (nI n))]) hx hb d_mo_count_125 rfl hl (by decide) rfl (fun ls hl => ?_)
          refine lv_iload_n hx hb d_mo_count_126 rfl (lv_at hl 0 rfl) ?_
          refine lv_bipush (v := nI 31) hx hb d_mo_count_127 (by decide) ?_
          refine g_ge (tgt := 159) hx hb d_mo_count_129 (by decide) (by omega) (by omega) (fun c129 => absurd c129 (by decide)) (fun c129 => ?_)
          refine lv_iload_n hx hb d_mo_count_132 rfl (lv_at hl 2 rfl) ?_
          refine lv_iconst (v := 4) hx hb d_mo_count_133 (by decide) ?_
          refine lv_icmp_ne (tgt := 159) hx hb d_mo_count_134 (by decide) (fun c134 => ?_) (fun c134 => absurd c134 (by decide))
          refine lv_aload_n hx hb d_mo_count_159 rfl (lv_at hl 1 rfl) ?_
          refine g_get S hE.1 hG.1 f15 rfl in_mo 0 (by decide) tw_491 (fun _ h9 => h9) rfl d_mo_count_160 ?_
          refine lv_if_le (tgt := 170) hx hb d_mo_count_163 (by decide) (fun c163 => ?_) (fun c163 => absurd c163 (by decide))
          refine lv_iload_n hx hb d_mo_count_170 rfl (lv_at hl 2 rfl) ?_
          refine lv_iconst (v := 3) hx hb d_mo_count_171 (by decide) ?_
          refine lv_icmp_ne (tgt := 182) hx hb d_mo_count_172 (by decide) (fun c172 => ?_) (fun c172 => absurd c172 (by decide))
          refine lv_iload_n hx hb d_mo_count_182 rfl (lv_at hl 3 rfl) ?_
          refine W.widen (k := 0) (n := 0) (Nat.le_of_ble_eq_true rfl) (Nat.le_of_ble_eq_true rfl) ?_
          exact (W.iret hx hb hr (fun t9 ht9 hW9 => ⟨⟨_, _, rfl, ⟨hK, Or.inr ⟨1, by omega, rfl, ⟨_, _, _, _, _, _, _, ⟨f15, f15_u1, f15_u2, f15_u3, f15_u4, f15_u5, f15_u6, f15_u7, n12, n45, n67⟩, hR, hT, hC, hE8, hfl⟩, by rw [hn, show i = M by omega, ← hR.cntS]; rfl⟩⟩, by rw [ht9]; exact hG.1, hG.2.1⟩, hG.2.2.1.F ht9⟩) hG.2.2.1.2.2 d_mo_count_183)
        · refine lv_aload_n hx hb d_mo_count_37 rfl (lv_at hl 0 rfl) ?_
          refine g_get S hE.1 hG.1 f15 rfl in_mo 6 (by decide) tw_497 (fun _ h9 => h9) rfl d_mo_count_38 ?_
          refine lv_iload_n hx hb d_mo_count_41 rfl (lv_at hl 3 rfl) ?_
          refine g_zald S hE.1 hG.1 f15_u4 2 rfl (vp_in_nI (by omega) (by omega)) d_mo_count_42 ?_
          refine g_topi (congrArg gf (nI_clamp (show i < 2 ^ 31 by omega))) ?_
          refine lv_if_ne (tgt := 118) hx hb d_mo_count_43 (by decide) (fun c43 => ?_) (fun c43 => ?_)
          · refine lv_iinc (v := nI (i + 1)) (lv' := [(3, .int (nI (i + 1))), (0, .ref mo), (1, .int 1), (2, .int (nI n))]) hx hb d_mo_count_118 hl (k := 3) rfl (show nI i + 1 = _ from nI_1 i) (by decide) rfl (fun ls hl => ?_)
            refine lv_goto (tgt := 22) hx hb d_mo_count_121 (by decide) ?_
            exact ih22 ((i + 1), n) _ ⟨⟨by omega, by
                subst hn; simp only [cntS, itr_s]
                have hq := sSeed hR (i := i) (by omega)
                first | rw [if_pos (hq.mpr ⟨c43, c62⟩)] | rw [if_neg (fun z => c43 (hq.mp z).1)] | rw [if_neg (fun z => (hq.mp z).2 c62)]⟩, lv_sub hl [1, 2, 3, 0] rfl⟩ (by first | omega | (simp only []; omega))
          · refine lv_iload_n hx hb d_mo_count_46 rfl (lv_at hl 1 rfl) ?_
            refine lv_if_eq (tgt := 65) hx hb d_mo_count_47 (by decide) (fun c47 => absurd c47 (by decide)) (fun c47 => ?_)
            refine lv_iload_n hx hb d_mo_count_50 rfl (lv_at hl 1 rfl) ?_
            refine lv_iconst (v := 1) hx hb d_mo_count_51 (by decide) ?_
            refine lv_icmp_ne (tgt := 71) hx hb d_mo_count_52 (by decide) (fun c52 => absurd c52 (by decide)) (fun c52 => ?_)
            refine lv_aload_n hx hb d_mo_count_55 rfl (lv_at hl 0 rfl) ?_
            refine g_get S hE.1 hG.1 f15 rfl in_mo 7 (by decide) tw_498 (fun _ h9 => h9) rfl d_mo_count_56 ?_
            refine lv_iload_n hx hb d_mo_count_59 rfl (lv_at hl 3 rfl) ?_
            refine g_iald S hE.1 hG.1 f15_u5 1 rfl (vp_in_nI (by omega) (by omega)) d_mo_count_60 ?_
            refine g_topi (congrArg sf (nI_clamp (show i < 2 ^ 31 by omega))) ?_
            refine lv_iconst (v := (-1)) hx hb d_mo_count_61 (by decide) ?_
            refine lv_icmp_eq (tgt := 71) hx hb d_mo_count_62 (by decide) (fun c62 => ?_) (fun c62 => ?_)
            · refine lv_iload_n hx hb d_mo_count_71 rfl (lv_at hl 2 rfl) ?_
              refine lv_istore_n (lv' := [(2, .int (nI n)), (0, .ref mo), (1, .int 1), (3, .int (nI i))]) hx hb d_mo_count_72 rfl hl (by decide) rfl (fun ls hl => ?_)
              refine lv_iconst (v := nI 0) hx hb d_mo_count_73 (by decide) ?_
              refine lv_istore (lv' := [(4, .int (nI 0)), (2, .int (nI n)), (0, .ref mo), (1, .int 1), (3, .int (nI i))]) hx hb d_mo_count_74 hl (by decide) rfl (fun ls hl => ?_)
              refine lv_iload hx hb d_mo_count_76 (lv_at hl 0 rfl) ?_
              refine lv_bipush (v := nI 32) hx hb d_mo_count_78 (by decide) ?_
              refine g_ge (tgt := 118) hx hb d_mo_count_80 (by decide) (by omega) (by omega) (fun c80 => absurd c80 (by decide)) (fun c80 => ?_)
              refine lv_iload_n hx hb d_mo_count_83 rfl (lv_at hl 3 rfl) ?_
              refine lv_iconst (v := 2) hx hb d_mo_count_84 (by decide) ?_
              refine lv_icmp_ne (tgt := 118) hx hb d_mo_count_85 (by decide) (fun c85 => ?_) (fun c85 => absurd c85 (by decide))
              refine lv_iinc (v := nI (i + 1)) (lv' := [(3, .int (nI (i + 1))), (4, .int (nI 0)), (2, .int (nI n)), (0, .ref mo), (1, .int 1)]) hx hb d_mo_count_118 hl (k := 4) rfl (show nI i + 1 = _ from nI_1 i) (by decide) rfl (fun ls hl => ?_)
              refine lv_goto (tgt := 22) hx hb d_mo_count_121 (by decide) ?_
              exact ih22 ((i + 1), n) _ ⟨⟨by omega, by
                  subst hn; simp only [cntS, itr_s]
                  have hq := sSeed hR (i := i) (by omega)
                  first | rw [if_pos (hq.mpr ⟨c43, c62⟩)] | rw [if_neg (fun z => c43 (hq.mp z).1)] | rw [if_neg (fun z => (hq.mp z).2 c62)]⟩, lv_sub hl [3, 4, 2, 0] rfl⟩ (by first | omega | (simp only []; omega))
            · refine lv_iload_n hx hb d_mo_count_65 rfl (lv_at hl 2 rfl) ?_
              refine lv_iconst (v := nI 1) hx hb d_mo_count_66 (by decide) ?_
              refine lv_iadd hx hb d_mo_count_67 ?_
              refine g_topi (y := nI (n + 1)) (nI_add n 1) ?_
              refine lv_goto (tgt := 72) hx hb d_mo_count_68 (by decide) ?_
              refine lv_istore_n (lv' := [(2, .int (nI (n + 1))), (0, .ref mo), (1, .int 1), (3, .int (nI i))]) hx hb d_mo_count_72 rfl hl (by decide) rfl (fun ls hl => ?_)
              refine lv_iconst (v := nI 0) hx hb d_mo_count_73 (by decide) ?_
              refine lv_istore (lv' := [(4, .int (nI 0)), (2, .int (nI (n + 1))), (0, .ref mo), (1, .int 1), (3, .int (nI i))]) hx hb d_mo_count_74 hl (by decide) rfl (fun ls hl => ?_)
              refine lv_iload hx hb d_mo_count_76 (lv_at hl 0 rfl) ?_
              refine lv_bipush (v := nI 32) hx hb d_mo_count_78 (by decide) ?_
              refine g_ge (tgt := 118) hx hb d_mo_count_80 (by decide) (by omega) (by omega) (fun c80 => absurd c80 (by decide)) (fun c80 => ?_)
              refine lv_iload_n hx hb d_mo_count_83 rfl (lv_at hl 3 rfl) ?_
              refine lv_iconst (v := 2) hx hb d_mo_count_84 (by decide) ?_
              refine lv_icmp_ne (tgt := 118) hx hb d_mo_count_85 (by decide) (fun c85 => ?_) (fun c85 => absurd c85 (by decide))
              refine lv_iinc (v := nI (i + 1)) (lv' := [(3, .int (nI (i + 1))), (4, .int (nI 0)), (2, .int (nI (n + 1))), (0, .ref mo), (1, .int 1)]) hx hb d_mo_count_118 hl (k := 4) rfl (show nI i + 1 = _ from nI_1 i) (by decide) rfl (fun ls hl => ?_)
              refine lv_goto (tgt := 22) hx hb d_mo_count_121 (by decide) ?_
              exact ih22 ((i + 1), (n + 1)) _ ⟨⟨by omega, by
                  subst hn; simp only [cntS, itr_s]
                  have hq := sSeed hR (i := i) (by omega)
                  first | rw [if_pos (hq.mpr ⟨c43, c62⟩)] | rw [if_neg (fun z => c43 (hq.mp z).1)] | rw [if_neg (fun z => (hq.mp z).2 c62)]⟩, lv_sub hl [3, 4, 2, 0] rfl⟩ (by first | omega | (simp only []; omega))
      · have hl : lv_has ls 5 [(0, .ref mo), (1, .int 2)] := hl
        refine lv_iconst (v := nI 0) hx hb d_mo_count_18 (by decide) ?_
        refine lv_istore_n (lv' := [(2, .int (nI 0)), (0, .ref mo), (1, .int 2)]) hx hb d_mo_count_19 rfl hl (by decide) rfl (fun ls hl => ?_)
        refine lv_iconst (v := nI 0) hx hb d_mo_count_20 (by decide) ?_
        refine lv_istore_n (lv' := [(3, .int (nI 0)), (2, .int (nI 0)), (0, .ref mo), (1, .int 2)]) hx hb d_mo_count_21 rfl hl (by decide) rfl (fun ls hl => ?_)
        refine g_ind (V := Nat × Nat) (fun (i, n) ls => (i ≤ M ∧ cntC pt pd i = nI n) ∧ lv_has ls 5 [(0, .ref mo), (1, .int 2), (2, .int (nI n)), (3, .int (nI i))]) (fun (i, n) => M - i) ?_ (0, 0) _ ⟨⟨Nat.zero_le _, rfl⟩, lv_sub hl [2, 3, 1, 0] rfl⟩
        intro v ls hI ih22
        obtain ⟨i, n⟩ := v
        obtain ⟨⟨hi, hn⟩, hl⟩ := hI
        refine lv_aload_n hx hb d_mo_count_22 rfl (lv_at hl 0 rfl) ?_
        refine g_get S hE.1 hG.1 f15 rfl in_mo 0 (by decide) tw_491 (fun _ h9 => h9) rfl d_mo_count_23 ?_
        refine lv_if_ne (tgt := 124) hx hb d_mo_count_26 (by decide) (fun c26 => absurd c26 (by decide)) (fun c26 => ?_)
        refine lv_iload_n hx hb d_mo_count_29 rfl (lv_at hl 3 rfl) ?_
        refine lv_aload_n hx hb d_mo_count_30 rfl (lv_at hl 0 rfl) ?_
        refine g_get S hE.1 hG.1 f15 rfl in_mo 8 (by decide) tw_499 (fun _ h9 => h9) rfl d_mo_count_31 ?_
        refine g_ge (tgt := 124) hx hb d_mo_count_34 (by decide) (by omega) (by omega) (fun c34 => ?_) (fun c34 => ?_)
        · refine lv_iconst (v := nI 0) hx hb d_mo_count_124 (by decide) ?_
          refine lv_istore_n (lv' := [(3, .int (nI 0)), (0, .ref mo), (1, .int 2), (2, .int (nI n))]) hx hb d_mo_count_125 rfl hl (by decide) rfl (fun ls hl => ?_)
          refine lv_iload_n hx hb d_mo_count_126 rfl (lv_at hl 0 rfl) ?_
          refine lv_bipush (v := nI 31) hx hb d_mo_count_127 (by decide) ?_
          refine g_ge (tgt := 159) hx hb d_mo_count_129 (by decide) (by omega) (by omega) (fun c129 => absurd c129 (by decide)) (fun c129 => ?_)
          refine lv_iload_n hx hb d_mo_count_132 rfl (lv_at hl 2 rfl) ?_
          refine lv_iconst (v := 4) hx hb d_mo_count_133 (by decide) ?_
          refine lv_icmp_ne (tgt := 159) hx hb d_mo_count_134 (by decide) (fun c134 => ?_) (fun c134 => absurd c134 (by decide))
          refine lv_aload_n hx hb d_mo_count_159 rfl (lv_at hl 1 rfl) ?_
          refine g_get S hE.1 hG.1 f15 rfl in_mo 0 (by decide) tw_491 (fun _ h9 => h9) rfl d_mo_count_160 ?_
          refine lv_if_le (tgt := 170) hx hb d_mo_count_163 (by decide) (fun c163 => ?_) (fun c163 => absurd c163 (by decide))
          refine lv_iload_n hx hb d_mo_count_170 rfl (lv_at hl 2 rfl) ?_
          refine lv_iconst (v := 3) hx hb d_mo_count_171 (by decide) ?_
          refine lv_icmp_ne (tgt := 182) hx hb d_mo_count_172 (by decide) (fun c172 => ?_) (fun c172 => absurd c172 (by decide))
          refine lv_iload_n hx hb d_mo_count_182 rfl (lv_at hl 3 rfl) ?_
          refine W.widen (k := 0) (n := 0) (Nat.le_of_ble_eq_true rfl) (Nat.le_of_ble_eq_true rfl) ?_
          exact (W.iret hx hb hr (fun t9 ht9 hW9 => ⟨⟨_, _, rfl, ⟨hK, Or.inr ⟨2, by omega, rfl, ⟨_, _, _, _, _, _, _, ⟨f15, f15_u1, f15_u2, f15_u3, f15_u4, f15_u5, f15_u6, f15_u7, n12, n45, n67⟩, hR, hT, hC, hE8, hfl⟩, by rw [← hn, show i = M by omega, ← hR.cntC]; rfl⟩⟩, by rw [ht9]; exact hG.1, hG.2.1⟩, hG.2.2.1.F ht9⟩) hG.2.2.1.2.2 d_mo_count_183)
        · refine lv_aload_n hx hb d_mo_count_37 rfl (lv_at hl 0 rfl) ?_
          refine g_get S hE.1 hG.1 f15 rfl in_mo 6 (by decide) tw_497 (fun _ h9 => h9) rfl d_mo_count_38 ?_
          refine lv_iload_n hx hb d_mo_count_41 rfl (lv_at hl 3 rfl) ?_
          refine g_zald S hE.1 hG.1 f15_u4 2 rfl (vp_in_nI (by omega) (by omega)) d_mo_count_42 ?_
          refine g_topi (congrArg gf (nI_clamp (show i < 2 ^ 31 by omega))) ?_
          refine lv_if_ne (tgt := 118) hx hb d_mo_count_43 (by decide) (fun c43 => ?_) (fun c43 => ?_)
          · refine lv_iinc (v := nI (i + 1)) (lv' := [(3, .int (nI (i + 1))), (0, .ref mo), (1, .int 2), (2, .int (nI n))]) hx hb d_mo_count_118 hl (k := 3) rfl (show nI i + 1 = _ from nI_1 i) (by decide) rfl (fun ls hl => ?_)
            refine lv_goto (tgt := 22) hx hb d_mo_count_121 (by decide) ?_
            exact ih22 ((i + 1), n) _ ⟨⟨by omega, by
                have e0 : cntC pt pd (i + 1) = if (prN pt pd i).isSome then cntC pt pd i + bcnt (pca (pd i)) else cntC pt pd i := rfl
                rw [e0, hn]
                first | rw [if_neg (fun z => c43 ((hR.pr (by omega)).mp z).2)] | rw [if_pos ((hR.pr (by omega)).mpr ⟨by omega, c43⟩), sCC hR (by omega) c43, nI_add, hn2, show k = 32 by omega]⟩, lv_sub hl [1, 2, 3, 0] rfl⟩ (by first | omega | (simp only []; omega))
          · refine lv_iload_n hx hb d_mo_count_46 rfl (lv_at hl 1 rfl) ?_
            refine lv_if_eq (tgt := 65) hx hb d_mo_count_47 (by decide) (fun c47 => absurd c47 (by decide)) (fun c47 => ?_)
            refine lv_iload_n hx hb d_mo_count_50 rfl (lv_at hl 1 rfl) ?_
            refine lv_iconst (v := 1) hx hb d_mo_count_51 (by decide) ?_
            refine lv_icmp_ne (tgt := 71) hx hb d_mo_count_52 (by decide) (fun c52 => ?_) (fun c52 => absurd c52 (by decide))
            refine lv_iload_n hx hb d_mo_count_71 rfl (lv_at hl 2 rfl) ?_
            refine lv_istore_n (lv' := [(2, .int (nI n)), (0, .ref mo), (1, .int 2), (3, .int (nI i))]) hx hb d_mo_count_72 rfl hl (by decide) rfl (fun ls hl => ?_)
            refine lv_iconst (v := nI 0) hx hb d_mo_count_73 (by decide) ?_
            refine lv_istore (lv' := [(4, .int (nI 0)), (2, .int (nI n)), (0, .ref mo), (1, .int 2), (3, .int (nI i))]) hx hb d_mo_count_74 hl (by decide) rfl (fun ls hl => ?_)
            refine g_ind (V := Nat × Nat) (fun (k, n2) ls => (k ≤ 32 ∧ n2 = n + cCf cf i k) ∧ lv_has ls 5 [(0, .ref mo), (1, .int 2), (2, .int (nI n2)), (3, .int (nI i)), (4, .int (nI k))]) (fun (k, n2) => 32 - k) ?_ (0, n) _ ⟨⟨Nat.zero_le _, rfl⟩, lv_sub hl [2, 3, 1, 4, 0] rfl⟩
            intro v ls hI ih76
            obtain ⟨k, n2⟩ := v
            obtain ⟨⟨hk, hn2⟩, hl⟩ := hI
            refine lv_iload hx hb d_mo_count_76 (lv_at hl 4 rfl) ?_
            refine lv_bipush (v := nI 32) hx hb d_mo_count_78 (by decide) ?_
            refine g_ge (tgt := 118) hx hb d_mo_count_80 (by decide) (by omega) (by omega) (fun c80 => ?_) (fun c80 => ?_)
            · refine lv_iinc (v := nI (i + 1)) (lv' := [(3, .int (nI (i + 1))), (0, .ref mo), (1, .int 2), (2, .int (nI n2)), (4, .int (nI k))]) hx hb d_mo_count_118 hl (k := 3) rfl (show nI i + 1 = _ from nI_1 i) (by decide) rfl (fun ls hl => ?_)
              refine lv_goto (tgt := 22) hx hb d_mo_count_121 (by decide) ?_
              exact ih22 ((i + 1), n2) _ ⟨⟨by omega, by
                  have e0 : cntC pt pd (i + 1) = if (prN pt pd i).isSome then cntC pt pd i + bcnt (pca (pd i)) else cntC pt pd i := rfl
                  rw [e0, hn]
                  first | rw [if_neg (fun z => c43 ((hR.pr (by omega)).mp z).2)] | rw [if_pos ((hR.pr (by omega)).mpr ⟨by omega, c43⟩), sCC hR (by omega) c43, nI_add, hn2, show k = 32 by omega]⟩, lv_sub hl [1, 2, 3, 0] rfl⟩ (by first | omega | (simp only []; omega))
            · refine lv_iload_n hx hb d_mo_count_83 rfl (lv_at hl 1 rfl) ?_
              refine lv_iconst (v := 2) hx hb d_mo_count_84 (by decide) ?_
              refine lv_icmp_ne (tgt := 118) hx hb d_mo_count_85 (by decide) (fun c85 => absurd c85 (by decide)) (fun c85 => ?_)
              refine lv_aload_n hx hb d_mo_count_88 rfl (lv_at hl 0 rfl) ?_
              refine g_get S hE.1 hG.1 f15 rfl in_mo 3 (by decide) tw_494 (fun _ h9 => h9) rfl d_mo_count_89 ?_
              refine lv_bipush (v := nI 32) hx hb d_mo_count_92 (by decide) ?_
              refine lv_iload_n hx hb d_mo_count_94 rfl (lv_at hl 3 rfl) ?_
              refine lv_imul hx hb d_mo_count_95 ?_
              refine g_topi (y := nI (32 * i)) (pk_mul 32 i) ?_
              refine lv_iload hx hb d_mo_count_96 (lv_at hl 4 rfl) ?_
              refine lv_iadd hx hb d_mo_count_98 ?_
              refine g_topi (y := nI ((32 * i) + k)) (nI_add (32 * i) k) ?_
              refine g_iald S hE.1 hG.1 f15_u1 1 rfl (vp_in_nI (by omega) (by omega)) d_mo_count_99 ?_
              refine g_topi (congrArg cf (nI_clamp (show ((32 * i) + k) < 2 ^ 31 by omega))) ?_
              refine lv_iconst (v := (-1)) hx hb d_mo_count_100 (by decide) ?_
              refine lv_icmp_eq (tgt := 110) hx hb d_mo_count_101 (by decide) (fun c101 => ?_) (fun c101 => ?_)
              · refine lv_iload_n hx hb d_mo_count_110 rfl (lv_at hl 2 rfl) ?_
                refine lv_istore_n (lv' := [(2, .int (nI n2)), (0, .ref mo), (1, .int 2), (3, .int (nI i)), (4, .int (nI k))]) hx hb d_mo_count_111 rfl hl (by decide) rfl (fun ls hl => ?_)
                refine lv_iinc (v := nI (k + 1)) (lv' := [(4, .int (nI (k + 1))), (2, .int (nI n2)), (0, .ref mo), (1, .int 2), (3, .int (nI i))]) hx hb d_mo_count_112 hl (k := 4) rfl (show nI k + 1 = _ from nI_1 k) (by decide) rfl (fun ls hl => ?_)
                refine lv_goto (tgt := 76) hx hb d_mo_count_115 (by decide) ?_
                exact ih76 ((k + 1), n2) _ ⟨⟨by omega, by
                    rw [hn2]; simp only [cCf, itr_s]
                    first | rw [if_pos c101] | (rw [if_neg c101]; omega)⟩, lv_sub hl [2, 3, 1, 4, 0] rfl⟩ (by first | omega | (simp only []; omega))
              · refine lv_iload_n hx hb d_mo_count_104 rfl (lv_at hl 2 rfl) ?_
                refine lv_iconst (v := nI 1) hx hb d_mo_count_105 (by decide) ?_
                refine lv_iadd hx hb d_mo_count_106 ?_
                refine g_topi (y := nI (n2 + 1)) (nI_add n2 1) ?_
                refine lv_goto (tgt := 111) hx hb d_mo_count_107 (by decide) ?_
                refine lv_istore_n (lv' := [(2, .int (nI (n2 + 1))), (0, .ref mo), (1, .int 2), (3, .int (nI i)), (4, .int (nI k))]) hx hb d_mo_count_111 rfl hl (by decide) rfl (fun ls hl => ?_)
                refine lv_iinc (v := nI (k + 1)) (lv' := [(4, .int (nI (k + 1))), (2, .int (nI (n2 + 1))), (0, .ref mo), (1, .int 2), (3, .int (nI i))]) hx hb d_mo_count_112 hl (k := 4) rfl (show nI k + 1 = _ from nI_1 k) (by decide) rfl (fun ls hl => ?_)
                refine lv_goto (tgt := 76) hx hb d_mo_count_115 (by decide) ?_
                exact ih76 ((k + 1), (n2 + 1)) _ ⟨⟨by omega, by
                    rw [hn2]; simp only [cCf, itr_s]
                    first | rw [if_pos c101] | (rw [if_neg c101]; omega)⟩, lv_sub hl [2, 3, 1, 4, 0] rfl⟩ (by first | omega | (simp only []; omega))
      · have hl : lv_has ls 5 [(0, .ref mo), (1, .int 3)] := hl
        refine lv_iconst (v := nI 0) hx hb d_mo_count_18 (by decide) ?_
        refine lv_istore_n (lv' := [(2, .int (nI 0)), (0, .ref mo), (1, .int 3)]) hx hb d_mo_count_19 rfl hl (by decide) rfl (fun ls hl => ?_)
        refine lv_iconst (v := nI 0) hx hb d_mo_count_20 (by decide) ?_
        refine lv_istore_n (lv' := [(3, .int (nI 0)), (2, .int (nI 0)), (0, .ref mo), (1, .int 3)]) hx hb d_mo_count_21 rfl hl (by decide) rfl (fun ls hl => ?_)
        refine g_ind (V := Nat × Nat) (fun (i, n) ls => (i ≤ M ∧ n = 0) ∧ lv_has ls 5 [(0, .ref mo), (1, .int 3), (2, .int (nI n)), (3, .int (nI i))]) (fun (i, n) => M - i) ?_ (0, 0) _ ⟨⟨Nat.zero_le _, rfl⟩, lv_sub hl [2, 3, 1, 0] rfl⟩
        intro v ls hI ih22
        obtain ⟨i, n⟩ := v
        obtain ⟨⟨hi, hn⟩, hl⟩ := hI
        refine lv_aload_n hx hb d_mo_count_22 rfl (lv_at hl 0 rfl) ?_
        refine g_get S hE.1 hG.1 f15 rfl in_mo 0 (by decide) tw_491 (fun _ h9 => h9) rfl d_mo_count_23 ?_
        refine lv_if_ne (tgt := 124) hx hb d_mo_count_26 (by decide) (fun c26 => absurd c26 (by decide)) (fun c26 => ?_)
        refine lv_iload_n hx hb d_mo_count_29 rfl (lv_at hl 3 rfl) ?_
        refine lv_aload_n hx hb d_mo_count_30 rfl (lv_at hl 0 rfl) ?_
        refine g_get S hE.1 hG.1 f15 rfl in_mo 8 (by decide) tw_499 (fun _ h9 => h9) rfl d_mo_count_31 ?_
        refine g_ge (tgt := 124) hx hb d_mo_count_34 (by decide) (by omega) (by omega) (fun c34 => ?_) (fun c34 => ?_)
        · refine lv_iconst (v := nI 0) hx hb d_mo_count_124 (by decide) ?_
          refine lv_istore_n (lv' := [(3, .int (nI 0)), (0, .ref mo), (1, .int 3), (2, .int (nI n))]) hx hb d_mo_count_125 rfl hl (by decide) rfl (fun ls hl => ?_)
          refine lv_iload_n hx hb d_mo_count_126 rfl (lv_at hl 0 rfl) ?_
          refine lv_bipush (v := nI 31) hx hb d_mo_count_127 (by decide) ?_
          refine g_ge (tgt := 159) hx hb d_mo_count_129 (by decide) (by omega) (by omega) (fun c129 => absurd c129 (by decide)) (fun c129 => ?_)
          refine lv_iload_n hx hb d_mo_count_132 rfl (lv_at hl 2 rfl) ?_
          refine lv_iconst (v := 4) hx hb d_mo_count_133 (by decide) ?_
          refine lv_icmp_ne (tgt := 159) hx hb d_mo_count_134 (by decide) (fun c134 => ?_) (fun c134 => absurd c134 (by decide))
          refine lv_aload_n hx hb d_mo_count_159 rfl (lv_at hl 1 rfl) ?_
          refine g_get S hE.1 hG.1 f15 rfl in_mo 0 (by decide) tw_491 (fun _ h9 => h9) rfl d_mo_count_160 ?_
          refine lv_if_le (tgt := 170) hx hb d_mo_count_163 (by decide) (fun c163 => ?_) (fun c163 => absurd c163 (by decide))
          refine lv_iload_n hx hb d_mo_count_170 rfl (lv_at hl 2 rfl) ?_
          refine lv_iconst (v := 3) hx hb d_mo_count_171 (by decide) ?_
          refine lv_icmp_ne (tgt := 182) hx hb d_mo_count_172 (by decide) (fun c172 => absurd c172 (by decide)) (fun c172 => ?_)
          refine lv_aload_n hx hb d_mo_count_175 rfl (lv_at hl 1 rfl) ?_
          refine g_get S hE.1 hG.1 f15 rfl in_mo 9 (by decide) tw_500 (fun _ h9 => h9) rfl d_mo_count_176 ?_
          refine lv_goto (tgt := 183) hx hb d_mo_count_179 (by decide) ?_
          refine W.widen (k := 0) (n := 0) (Nat.le_of_ble_eq_true rfl) (Nat.le_of_ble_eq_true rfl) ?_
          exact (W.iret hx hb hr (fun t9 ht9 hW9 => ⟨⟨_, _, rfl, ⟨hK, Or.inr ⟨3, by omega, rfl, ⟨_, _, _, _, _, _, _, ⟨f15, f15_u1, f15_u2, f15_u3, f15_u4, f15_u5, f15_u6, f15_u7, n12, n45, n67⟩, hR, hT, hC, hE8, hfl⟩, rfl⟩⟩, by rw [ht9]; exact hG.1, hG.2.1⟩, hG.2.2.1.F ht9⟩) hG.2.2.1.2.2 d_mo_count_183)
        · refine lv_aload_n hx hb d_mo_count_37 rfl (lv_at hl 0 rfl) ?_
          refine g_get S hE.1 hG.1 f15 rfl in_mo 6 (by decide) tw_497 (fun _ h9 => h9) rfl d_mo_count_38 ?_
          refine lv_iload_n hx hb d_mo_count_41 rfl (lv_at hl 3 rfl) ?_
          refine g_zald S hE.1 hG.1 f15_u4 2 rfl (vp_in_nI (by omega) (by omega)) d_mo_count_42 ?_
          refine g_topi (congrArg gf (nI_clamp (show i < 2 ^ 31 by omega))) ?_
          refine lv_if_ne (tgt := 118) hx hb d_mo_count_43 (by decide) (fun c43 => ?_) (fun c43 => ?_)
          · refine lv_iinc (v := nI (i + 1)) (lv' := [(3, .int (nI (i + 1))), (0, .ref mo), (1, .int 3), (2, .int (nI n))]) hx hb d_mo_count_118 hl (k := 3) rfl (show nI i + 1 = _ from nI_1 i) (by decide) rfl (fun ls hl => ?_)
            refine lv_goto (tgt := 22) hx hb d_mo_count_121 (by decide) ?_
            exact ih22 ((i + 1), n) _ ⟨⟨by omega, hn⟩, lv_sub hl [1, 2, 3, 0] rfl⟩ (by first | omega | (simp only []; omega))
          · refine lv_iload_n hx hb d_mo_count_46 rfl (lv_at hl 1 rfl) ?_
            refine lv_if_eq (tgt := 65) hx hb d_mo_count_47 (by decide) (fun c47 => absurd c47 (by decide)) (fun c47 => ?_)
            refine lv_iload_n hx hb d_mo_count_50 rfl (lv_at hl 1 rfl) ?_
            refine lv_iconst (v := 1) hx hb d_mo_count_51 (by decide) ?_
            refine lv_icmp_ne (tgt := 71) hx hb d_mo_count_52 (by decide) (fun c52 => ?_) (fun c52 => absurd c52 (by decide))
            refine lv_iload_n hx hb d_mo_count_71 rfl (lv_at hl 2 rfl) ?_
            refine lv_istore_n (lv' := [(2, .int (nI n)), (0, .ref mo), (1, .int 3), (3, .int (nI i))]) hx hb d_mo_count_72 rfl hl (by decide) rfl (fun ls hl => ?_)
            refine lv_iconst (v := nI 0) hx hb d_mo_count_73 (by decide) ?_
            refine lv_istore (lv' := [(4, .int (nI 0)), (2, .int (nI n)), (0, .ref mo), (1, .int 3), (3, .int (nI i))]) hx hb d_mo_count_74 hl (by decide) rfl (fun ls hl => ?_)
            refine lv_iload hx hb d_mo_count_76 (lv_at hl 0 rfl) ?_
            refine lv_bipush (v := nI 32) hx hb d_mo_count_78 (by decide) ?_
            refine g_ge (tgt := 118) hx hb d_mo_count_80 (by decide) (by omega) (by omega) (fun c80 => absurd c80 (by decide)) (fun c80 => ?_)
            refine lv_iload_n hx hb d_mo_count_83 rfl (lv_at hl 3 rfl) ?_
            refine lv_iconst (v := 2) hx hb d_mo_count_84 (by decide) ?_
            refine lv_icmp_ne (tgt := 118) hx hb d_mo_count_85 (by decide) (fun c85 => ?_) (fun c85 => absurd c85 (by decide))
            refine lv_iinc (v := nI (i + 1)) (lv' := [(3, .int (nI (i + 1))), (4, .int (nI 0)), (2, .int (nI n)), (0, .ref mo), (1, .int 3)]) hx hb d_mo_count_118 hl (k := 4) rfl (show nI i + 1 = _ from nI_1 i) (by decide) rfl (fun ls hl => ?_)
            refine lv_goto (tgt := 22) hx hb d_mo_count_121 (by decide) ?_
            exact ih22 ((i + 1), n) _ ⟨⟨by omega, hn⟩, lv_sub hl [3, 4, 2, 0] rfl⟩ (by first | omega | (simp only []; omega))
      · have hl : lv_has ls 5 [(0, .ref mo), (1, .int 4)] := hl
        refine lv_iconst (v := nI 0) hx hb d_mo_count_18 (by decide) ?_
        refine lv_istore_n (lv' := [(2, .int (nI 0)), (0, .ref mo), (1, .int 4)]) hx hb d_mo_count_19 rfl hl (by decide) rfl (fun ls hl => ?_)
        refine lv_iconst (v := nI 0) hx hb d_mo_count_20 (by decide) ?_
        refine lv_istore_n (lv' := [(3, .int (nI 0)), (2, .int (nI 0)), (0, .ref mo), (1, .int 4)]) hx hb d_mo_count_21 rfl hl (by decide) rfl (fun ls hl => ?_)
        refine g_ind (V := Nat × Nat) (fun (i, n) ls => (i ≤ M ∧ n = 0) ∧ lv_has ls 5 [(0, .ref mo), (1, .int 4), (2, .int (nI n)), (3, .int (nI i))]) (fun (i, n) => M - i) ?_ (0, 0) _ ⟨⟨Nat.zero_le _, rfl⟩, lv_sub hl [2, 3, 1, 0] rfl⟩
        intro v ls hI ih22
        obtain ⟨i, n⟩ := v
        obtain ⟨⟨hi, hn⟩, hl⟩ := hI
        refine lv_aload_n hx hb d_mo_count_22 rfl (lv_at hl 0 rfl) ?_
        refine g_get S hE.1 hG.1 f15 rfl in_mo 0 (by decide) tw_491 (fun _ h9 => h9) rfl d_mo_count_23 ?_
        refine lv_if_ne (tgt := 124) hx hb d_mo_count_26 (by decide) (fun c26 => absurd c26 (by decide)) (fun c26 => ?_)
        refine lv_iload_n hx hb d_mo_count_29 rfl (lv_at hl 3 rfl) ?_
        refine lv_aload_n hx hb d_mo_count_30 rfl (lv_at hl 0 rfl) ?_
        refine g_get S hE.1 hG.1 f15 rfl in_mo 8 (by decide) tw_499 (fun _ h9 => h9) rfl d_mo_count_31 ?_
        refine g_ge (tgt := 124) hx hb d_mo_count_34 (by decide) (by omega) (by omega) (fun c34 => ?_) (fun c34 => ?_)
        · refine lv_iconst (v := nI 0) hx hb d_mo_count_124 (by decide) ?_
          refine lv_istore_n (lv' := [(3, .int (nI 0)), (0, .ref mo), (1, .int 4), (2, .int (nI n))]) hx hb d_mo_count_125 rfl hl (by decide) rfl (fun ls hl => ?_)
          refine g_ind (V := Nat × Nat) (fun (f, n4) ls => (f ≤ 31 ∧ n4 = cFf pt pd f) ∧ lv_has ls 5 [(0, .ref mo), (1, .int 4), (2, .int (nI n4)), (3, .int (nI f))]) (fun (f, n4) => 31 - f) ?_ (0, n) _ ⟨⟨Nat.zero_le _, hn⟩, lv_sub hl [1, 2, 3, 0] rfl⟩
          intro v ls hI ih126
          obtain ⟨f, n4⟩ := v
          obtain ⟨⟨hf, hn4⟩, hl⟩ := hI
          refine lv_iload_n hx hb d_mo_count_126 rfl (lv_at hl 3 rfl) ?_
          refine lv_bipush (v := nI 31) hx hb d_mo_count_127 (by decide) ?_
          refine g_ge (tgt := 159) hx hb d_mo_count_129 (by decide) (by omega) (by omega) (fun c129 => ?_) (fun c129 => ?_)
          · refine lv_aload_n hx hb d_mo_count_159 rfl (lv_at hl 0 rfl) ?_
            refine g_get S hE.1 hG.1 f15 rfl in_mo 0 (by decide) tw_491 (fun _ h9 => h9) rfl d_mo_count_160 ?_
            refine lv_if_le (tgt := 170) hx hb d_mo_count_163 (by decide) (fun c163 => ?_) (fun c163 => absurd c163 (by decide))
            refine lv_iload_n hx hb d_mo_count_170 rfl (lv_at hl 1 rfl) ?_
            refine lv_iconst (v := 3) hx hb d_mo_count_171 (by decide) ?_
            refine lv_icmp_ne (tgt := 182) hx hb d_mo_count_172 (by decide) (fun c172 => ?_) (fun c172 => absurd c172 (by decide))
            refine lv_iload_n hx hb d_mo_count_182 rfl (lv_at hl 2 rfl) ?_
            refine W.widen (k := 0) (n := 0) (Nat.le_of_ble_eq_true rfl) (Nat.le_of_ble_eq_true rfl) ?_
            exact (W.iret hx hb hr (fun t9 ht9 hW9 => ⟨⟨_, _, rfl, ⟨hK, Or.inr ⟨4, by omega, rfl, ⟨_, _, _, _, _, _, _, ⟨f15, f15_u1, f15_u2, f15_u3, f15_u4, f15_u5, f15_u6, f15_u7, n12, n45, n67⟩, hR, hT, hC, hE8, hfl⟩, by rw [hn4, show f = 31 by omega, ← sCF hR]; rfl⟩⟩, by rw [ht9]; exact hG.1, hG.2.1⟩, hG.2.2.1.F ht9⟩) hG.2.2.1.2.2 d_mo_count_183)
          · refine lv_iload_n hx hb d_mo_count_132 rfl (lv_at hl 1 rfl) ?_
            refine lv_iconst (v := 4) hx hb d_mo_count_133 (by decide) ?_
            refine lv_icmp_ne (tgt := 159) hx hb d_mo_count_134 (by decide) (fun c134 => absurd c134 (by decide)) (fun c134 => ?_)
            refine lv_aload_n hx hb d_mo_count_137 rfl (lv_at hl 0 rfl) ?_
            refine lv_iload_n hx hb d_mo_count_138 rfl (lv_at hl 3 rfl) ?_
            refine g_reti (g_runV (As := [.int (nI f)]) (rest := []) S lk_mo_67 k_mo_findersOf (c_mo_findersOf l Z G15 mo ⟨f15, f15_u1, f15_u2, f15_u3, f15_u4, f15_u5, f15_u6, f15_u7, n12, n45, n67⟩ hR f (by omega)) ⟨rfl, rfl⟩ ⟨Nat.le_of_ble_eq_true rfl, Nat.le_of_ble_eq_true rfl⟩ (gPreV hG.1 hE f15 rfl) rfl hl.1 rfl (Nat.le_of_ble_eq_true rfl) d_mo_count_139 ⟨Nat.le_of_ble_eq_true rfl, Nat.le_of_ble_eq_true rfl⟩) (fun r139 h139 => ?_)
            refine g_topi (y := nI (cntF pt pd (on1 f) 24)) h139 ?_
            refine lv_if_le (tgt := 151) hx hb d_mo_count_142 (by decide) (fun c142 => ?_) (fun c142 => ?_)
            · refine lv_iload_n hx hb d_mo_count_151 rfl (lv_at hl 2 rfl) ?_
              refine lv_istore_n (lv' := [(2, .int (nI n4)), (0, .ref mo), (1, .int 4), (3, .int (nI f))]) hx hb d_mo_count_152 rfl hl (by decide) rfl (fun ls hl => ?_)
              refine lv_iinc (v := nI (f + 1)) (lv' := [(3, .int (nI (f + 1))), (2, .int (nI n4)), (0, .ref mo), (1, .int 4)]) hx hb d_mo_count_153 hl (k := 3) rfl (show nI f + 1 = _ from nI_1 f) (by decide) rfl (fun ls hl => ?_)
              refine lv_goto (tgt := 126) hx hb d_mo_count_156 (by decide) ?_
              exact ih126 ((f + 1), n4) _ ⟨⟨by omega, by
                  rw [hn4]; simp only [cFf, itr_s]
                  have hcl := cntF_le pt pd (on1 f) 24
                  first | rw [if_pos (Nat.pos_of_ne_zero (fun z => c142 (by rw [z]; decide)))] | rw [if_neg (fun z => absurd c142 (nI_nle z (by omega)))]⟩, lv_sub hl [2, 3, 1, 0] rfl⟩ (by first | omega | (simp only []; omega))
            · refine lv_iload_n hx hb d_mo_count_145 rfl (lv_at hl 2 rfl) ?_
              refine lv_iconst (v := nI 1) hx hb d_mo_count_146 (by decide) ?_
              refine lv_iadd hx hb d_mo_count_147 ?_
              refine g_topi (y := nI (n4 + 1)) (nI_add n4 1) ?_
              refine lv_goto (tgt := 152) hx hb d_mo_count_148 (by decide) ?_
              refine lv_istore_n (lv' := [(2, .int (nI (n4 + 1))), (0, .ref mo), (1, .int 4), (3, .int (nI f))]) hx hb d_mo_count_152 rfl hl (by decide) rfl (fun ls hl => ?_)
              refine lv_iinc (v := nI (f + 1)) (lv' := [(3, .int (nI (f + 1))), (2, .int (nI (n4 + 1))), (0, .ref mo), (1, .int 4)]) hx hb d_mo_count_153 hl (k := 3) rfl (show nI f + 1 = _ from nI_1 f) (by decide) rfl (fun ls hl => ?_)
              refine lv_goto (tgt := 126) hx hb d_mo_count_156 (by decide) ?_
              exact ih126 ((f + 1), (n4 + 1)) _ ⟨⟨by omega, by
                  rw [hn4]; simp only [cFf, itr_s]
                  have hcl := cntF_le pt pd (on1 f) 24
                  first | rw [if_pos (Nat.pos_of_ne_zero (fun z => c142 (by rw [z]; decide)))] | rw [if_neg (fun z => absurd c142 (nI_nle z (by omega)))]⟩, lv_sub hl [2, 3, 1, 0] rfl⟩ (by first | omega | (simp only []; omega))
        · refine lv_aload_n hx hb d_mo_count_37 rfl (lv_at hl 0 rfl) ?_
          refine g_get S hE.1 hG.1 f15 rfl in_mo 6 (by decide) tw_497 (fun _ h9 => h9) rfl d_mo_count_38 ?_
          refine lv_iload_n hx hb d_mo_count_41 rfl (lv_at hl 3 rfl) ?_
          refine g_zald S hE.1 hG.1 f15_u4 2 rfl (vp_in_nI (by omega) (by omega)) d_mo_count_42 ?_
          refine g_topi (congrArg gf (nI_clamp (show i < 2 ^ 31 by omega))) ?_
          refine lv_if_ne (tgt := 118) hx hb d_mo_count_43 (by decide) (fun c43 => ?_) (fun c43 => ?_)
          · refine lv_iinc (v := nI (i + 1)) (lv' := [(3, .int (nI (i + 1))), (0, .ref mo), (1, .int 4), (2, .int (nI n))]) hx hb d_mo_count_118 hl (k := 3) rfl (show nI i + 1 = _ from nI_1 i) (by decide) rfl (fun ls hl => ?_)
            refine lv_goto (tgt := 22) hx hb d_mo_count_121 (by decide) ?_
            exact ih22 ((i + 1), n) _ ⟨⟨by omega, hn⟩, lv_sub hl [1, 2, 3, 0] rfl⟩ (by first | omega | (simp only []; omega))
          · refine lv_iload_n hx hb d_mo_count_46 rfl (lv_at hl 1 rfl) ?_
            refine lv_if_eq (tgt := 65) hx hb d_mo_count_47 (by decide) (fun c47 => absurd c47 (by decide)) (fun c47 => ?_)
            refine lv_iload_n hx hb d_mo_count_50 rfl (lv_at hl 1 rfl) ?_
            refine lv_iconst (v := 1) hx hb d_mo_count_51 (by decide) ?_
            refine lv_icmp_ne (tgt := 71) hx hb d_mo_count_52 (by decide) (fun c52 => ?_) (fun c52 => absurd c52 (by decide))
            refine lv_iload_n hx hb d_mo_count_71 rfl (lv_at hl 2 rfl) ?_
            refine lv_istore_n (lv' := [(2, .int (nI n)), (0, .ref mo), (1, .int 4), (3, .int (nI i))]) hx hb d_mo_count_72 rfl hl (by decide) rfl (fun ls hl => ?_)
            refine lv_iconst (v := nI 0) hx hb d_mo_count_73 (by decide) ?_
            refine lv_istore (lv' := [(4, .int (nI 0)), (2, .int (nI n)), (0, .ref mo), (1, .int 4), (3, .int (nI i))]) hx hb d_mo_count_74 hl (by decide) rfl (fun ls hl => ?_)
            refine lv_iload hx hb d_mo_count_76 (lv_at hl 0 rfl) ?_
            refine lv_bipush (v := nI 32) hx hb d_mo_count_78 (by decide) ?_
            refine g_ge (tgt := 118) hx hb d_mo_count_80 (by decide) (by omega) (by omega) (fun c80 => absurd c80 (by decide)) (fun c80 => ?_)
            refine lv_iload_n hx hb d_mo_count_83 rfl (lv_at hl 3 rfl) ?_
            refine lv_iconst (v := 2) hx hb d_mo_count_84 (by decide) ?_
            refine lv_icmp_ne (tgt := 118) hx hb d_mo_count_85 (by decide) (fun c85 => ?_) (fun c85 => absurd c85 (by decide))
            refine lv_iinc (v := nI (i + 1)) (lv' := [(3, .int (nI (i + 1))), (4, .int (nI 0)), (2, .int (nI n)), (0, .ref mo), (1, .int 4)]) hx hb d_mo_count_118 hl (k := 4) rfl (show nI i + 1 = _ from nI_1 i) (by decide) rfl (fun ls hl => ?_)
            refine lv_goto (tgt := 22) hx hb d_mo_count_121 (by decide) ?_
            exact ih22 ((i + 1), n) _ ⟨⟨by omega, hn⟩, lv_sub hl [3, 4, 2, 0] rfl⟩ (by first | omega | (simp only []; omega))
