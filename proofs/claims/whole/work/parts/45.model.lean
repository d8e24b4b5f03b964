set_option maxHeartbeats 600000 in
set_option maxRecDepth 100000 in
theorem c_mo_pattern (l : Launch) (Z : gZ) (G : gh) (sz : Nat) (mo : Nat) {u1 u2 u3 u4 u5 u6 u7 : Nat} {th : Int32} {C E M D : Nat} {fl tp : Int32} {pt : Nat → Option Nat} {pd : Nat → Pat} (hQ : moQ Z G mo u1 u2 u3 u4 u5 u6 u7 th C E M D fl tp pt pd) : Met l y_mo_pattern (wd_mo_pattern :: Gall) ({ frames := 0, cells := 0, slots := 0, locals := 0 }) (va_Pc [.ref mo] (gPw Z G sz)) (va_Qi (fun (r : Int32) (G9 : gh) => gKe (moI mo u1 u2 u3 u4 u5 u6 u7) G G9 ∧ ((M = 24 ∧ moQ Z G9 mo u1 u2 u3 u4 u5 u6 u7 1 C E M D fl tp pt pd) ∨ (M < 24 ∧ r = nI M ∧ ∀ q, moQ Z G9 mo u1 u2 u3 u4 u5 u6 u7 0 C E (M + 1) D fl tp (va_up pt M (some q)) (va_up pd M pat0)))) (gW Z G sz) (gA G sz)) 0 0 (gA G sz) := by
  refine Met.ofW (cc := b_mo_pattern) (maxL := 2) (ret := (some .int)) (by decide) rfl ?_
  intro p e s m args below meth c s₁ B hml hv
  obtain ⟨rfl, hsz, hG, hE⟩ := hv
  subst hsz
  have hx := B.exec
  have hb := B.bytes
  have hr := B.returns
  have hlocks := B.notSynchronized
  have S : CallFix p m c b_mo_pattern 2 s _ Gall "PackSeedsModel" := ⟨hx, hb, hml, findClass_of_methodNamed B.named, fun w hw => atoms_spec (ws := wd_mo_pattern :: Gall) B.pre w (List.mem_cons_of_mem _ hw)⟩
  have hG : gS (gA G s.heap.size) s.heap Z.1 cls G s.heap [] := gS.start hG
  have hl := lv_entry ([.ref mo]) (n := 2) (Nat.le_of_ble_eq_true rfl)
  rw [lg_entry_eq]
  generalize (lg_sl ([.ref mo]) ++ List.replicate (2 - (lg_sl ([.ref mo])).length) Slot.unset).toArray = ls at hl ⊢
  have hl : lv_has ls 2 [(0, .ref mo)] := hl
  have hK : gKe (moI mo u1 u2 u3 u4 u5 u6 u7) G G := gKe.rf
  obtain ⟨cf, mf, ff, gf, sf, tf, bf, hP, hR, hT, hC, hE8, hfl⟩ := hQ
  have hP0 := hP
  obtain ⟨hmo, hc1, hc2, hc3, hc4, hc5, hc6, hc7, n12, n45, n67⟩ := hP
  have hM24 := hR.1
  have hD1 := hT.1
  have hD16 := hT.2.1
  refine lv_aload_n hx hb d_mo_pattern_0 rfl (lv_at hl 0 rfl) ?_
  refine lv_aload_n hx hb d_mo_pattern_1 rfl (lv_at hl 0 rfl) ?_
  refine g_get S hE.1 hG.1 hmo rfl in_mo 8 (by decide) tw_499 (fun _ h9 => h9) rfl d_mo_pattern_2 ?_
  refine lv_bipush (v := nI 24) hx hb d_mo_pattern_5 (by decide) ?_
  refine g_ne (tgt := 14) hx hb d_mo_pattern_7 (by decide) (by omega) (by omega) (fun c7 => ?_) (fun c7 => ?_)
  · refine lv_iconst (v := 0) hx hb d_mo_pattern_14 (by decide) ?_
    refine g_put S hE.1 hG hmo rfl in_mo ty_mo tyok_mo nm_mo 0 (by decide) tw_491 (fun _ h9 => h9) rfl (ty := .int) (by decide +kernel) rfl rfl (Nat.le_of_ble_eq_true rfl) d_mo_pattern_15 (fun H locs hG => ?_)
    have hG : gS (gA G s.heap.size) s.heap Z.1 cls (gup G mo (.inr (4, [.int 0, .int (nI C), .int (nI E), .ref u1, .ref u2, .ref u3, .ref u4, .ref u5, .int (nI M), .int (nI D), .ref u6, .int fl, .ref u7]))) H locs := hG
    generalize eG15 : gup G mo (.inr (4, [.int 0, .int (nI C), .int (nI E), .ref u1, .ref u2, .ref u3, .ref u4, .ref u5, .int (nI M), .int (nI D), .ref u6, .int fl, .ref u7])) = G15 at hG
    have f15_u1 : G15 u1 = some (.inl (Z.2 1, 768, .inl cf)) := by rw [← eG15]; exact gup_keep hmo hc1 (by simp)
    have f15_u2 : G15 u2 = some (.inl (Z.2 2, 768, .inl mf)) := by rw [← eG15]; exact gup_keep hmo hc2 (by simp)
    have f15_u3 : G15 u3 = some (.inl (Z.2 2, 744, .inl ff)) := by rw [← eG15]; exact gup_keep hmo hc3 (by simp)
    have f15_u4 : G15 u4 = some (.inl (Z.2 2, 24, .inl gf)) := by rw [← eG15]; exact gup_keep hmo hc4 (by simp)
    have f15_u5 : G15 u5 = some (.inl (Z.2 1, 24, .inl sf)) := by rw [← eG15]; exact gup_keep hmo hc5 (by simp)
    have f15_u6 : G15 u6 = some (.inl (Z.2 2, 16, .inl tf)) := by rw [← eG15]; exact gup_keep hmo hc6 (by simp)
    have f15_u7 : G15 u7 = some (.inl (Z.2 1, 16, .inl bf)) := by rw [← eG15]; exact gup_keep hmo hc7 (by simp)
    have f15 : G15 mo = some (.inr (4, [.int 0, .int (nI C), .int (nI E), .ref u1, .ref u2, .ref u3, .ref u4, .ref u5, .int (nI M), .int (nI D), .ref u6, .int fl, .ref u7])) := by rw [← eG15]; exact gup_self _ _ _
    have hK : gKe (moI mo u1 u2 u3 u4 u5 u6 u7) G G15 := by rw [← eG15]; exact hK.up (by simp [moI])
    refine lv_aload_n hx hb d_mo_pattern_18 rfl (lv_at hl 0 rfl) ?_
    refine g_get S hE.1 hG.1 f15 rfl in_mo 0 (by decide) tw_491 (fun _ h9 => h9) rfl d_mo_pattern_19 ?_
    refine lv_if_le (tgt := 27) hx hb d_mo_pattern_22 (by decide) (fun c22 => ?_) (fun c22 => absurd c22 (by decide))
    refine lv_iconst (v := nI 0) hx hb d_mo_pattern_27 (by decide) ?_
    refine lv_istore_n (lv' := [(1, .int (nI 0)), (0, .ref mo)]) hx hb d_mo_pattern_28 rfl hl (by decide) rfl (fun ls hl => ?_)
    refine g_indH (V := Nat × (Nat → Int32) × gh) (fun (k, c9, Gx) H locs ls => ((k ≤ 32 ∧ (∀ j, j < k → c9 (32 * M + j) = -1) ∧ (∀ j, j < 32 * M → c9 j = cf j)) ∧ gKe (moI mo u1 u2 u3 u4 u5 u6 u7) G Gx ∧ moP Z Gx mo u1 u2 u3 u4 u5 u6 u7 0 C E M D fl c9 mf ff gf sf tf bf) ∧ gS (gA G s.heap.size) s.heap Z.1 cls Gx H locs ∧ lv_has ls 2 [(0, .ref mo), (1, .int (nI k))]) (fun (k, c9, Gx) => 32 - k) ?_ (0, cf, G15) _ ⟨⟨⟨Nat.zero_le _, fun j h9 => by omega, fun j h9 => rfl⟩, hK, ⟨f15, f15_u1, f15_u2, f15_u3, f15_u4, f15_u5, f15_u6, f15_u7, n12, n45, n67⟩⟩, hG, lv_sub hl [1, 0] rfl⟩
    intro v H locs ls hI ih29
    obtain ⟨k, c9, Gx⟩ := v
    obtain ⟨⟨⟨hk, hca, hcb⟩, hK, hP29⟩, hG, hl⟩ := hI
    have hQ29 := hP29
    obtain ⟨hmo29, hc129, hc229, hc329, hc429, hc529, hc629, hc729, -⟩ := hP29
    refine lv_iload_n hx hb d_mo_pattern_29 rfl (lv_at hl 1 rfl) ?_
    refine lv_bipush (v := nI 32) hx hb d_mo_pattern_30 (by decide) ?_
    refine g_ge (tgt := 56) hx hb d_mo_pattern_32 (by decide) (by omega) (by omega) (fun c32 => ?_) (fun c32 => ?_)
    · refine lv_aload_n hx hb d_mo_pattern_56 rfl (lv_at hl 0 rfl) ?_
      refine g_get S hE.1 hG.1 hmo29 rfl in_mo 7 (by decide) tw_498 (fun _ h9 => h9) rfl d_mo_pattern_57 ?_
      refine lv_aload_n hx hb d_mo_pattern_60 rfl (lv_at hl 0 rfl) ?_
      refine g_get S hE.1 hG.1 hmo29 rfl in_mo 8 (by decide) tw_499 (fun _ h9 => h9) rfl d_mo_pattern_61 ?_
      refine lv_iconst (v := (-1)) hx hb d_mo_pattern_64 (by decide) ?_
      refine g_iast S hE.1 hG hc529 1 rfl (vp_in_nI (by omega) (by omega)) d_mo_pattern_65 (fun H locs hG => ?_)
      rw [nI_clamp (show M < 2 ^ 31 by omega)] at hG
      have hG : gS (gA G s.heap.size) s.heap Z.1 cls (gup Gx u5 (.inl (Z.2 1, 24, .inl (upd sf M (-1))))) H locs := hG
      generalize eG65 : gup Gx u5 (.inl (Z.2 1, 24, .inl (upd sf M (-1)))) = G65 at hG
      have f65_mo : G65 mo = some (.inr (4, [.int 0, .int (nI C), .int (nI E), .ref u1, .ref u2, .ref u3, .ref u4, .ref u5, .int (nI M), .int (nI D), .ref u6, .int fl, .ref u7])) := by rw [← eG65]; exact gup_keep hc529 hmo29 (by simp)
      have f65_u1 : G65 u1 = some (.inl (Z.2 1, 768, .inl c9)) := by rw [← eG65]; exact gup_keep hc529 hc129 (by simp)
      have f65_u2 : G65 u2 = some (.inl (Z.2 2, 768, .inl mf)) := by rw [← eG65]; exact gup_keep hc529 hc229 (by simp)
      have f65_u3 : G65 u3 = some (.inl (Z.2 2, 744, .inl ff)) := by rw [← eG65]; exact gup_keep hc529 hc329 (by simp)
      have f65_u4 : G65 u4 = some (.inl (Z.2 2, 24, .inl gf)) := by rw [← eG65]; exact (gup_ne _ _ n45).trans hc429
      have f65_u6 : G65 u6 = some (.inl (Z.2 2, 16, .inl tf)) := by rw [← eG65]; exact gup_keep hc529 hc629 (by simp)
      have f65_u7 : G65 u7 = some (.inl (Z.2 1, 16, .inl bf)) := by rw [← eG65]; exact gup_keep hc529 hc729 (by simp)
      have f65 : G65 u5 = some (.inl (Z.2 1, 24, .inl (upd sf M (-1)))) := by rw [← eG65]; exact gup_self _ _ _
      have hK : gKe (moI mo u1 u2 u3 u4 u5 u6 u7) G G65 := by rw [← eG65]; exact hK.up (by simp [moI])
      refine lv_aload_n hx hb d_mo_pattern_66 rfl (lv_at hl 0 rfl) ?_
      refine lv_dup hx hb d_mo_pattern_67 rfl ?_
      refine g_get S hE.1 hG.1 f65_mo rfl in_mo 8 (by decide) tw_499 (fun _ h9 => h9) rfl d_mo_pattern_68 ?_
      refine lv_iconst (v := nI 1) hx hb d_mo_pattern_71 (by decide) ?_
      refine lv_iadd hx hb d_mo_pattern_72 ?_
      refine g_topi (y := nI (M + 1)) (nI_add M 1) ?_
      refine g_put S hE.1 hG f65_mo rfl in_mo ty_mo tyok_mo nm_mo 8 (by decide) tw_499 (fun _ h9 => h9) rfl (ty := .int) (by decide +kernel) rfl rfl (Nat.le_of_ble_eq_true rfl) d_mo_pattern_73 (fun H locs hG => ?_)
      have hG : gS (gA G s.heap.size) s.heap Z.1 cls (gup G65 mo (.inr (4, [.int 0, .int (nI C), .int (nI E), .ref u1, .ref u2, .ref u3, .ref u4, .ref u5, .int (nI (M + 1)), .int (nI D), .ref u6, .int fl, .ref u7]))) H locs := hG
      generalize eG73 : gup G65 mo (.inr (4, [.int 0, .int (nI C), .int (nI E), .ref u1, .ref u2, .ref u3, .ref u4, .ref u5, .int (nI (M + 1)), .int (nI D), .ref u6, .int fl, .ref u7])) = G73 at hG
      have f73_u1 : G73 u1 = some (.inl (Z.2 1, 768, .inl c9)) := by rw [← eG73]; exact gup_keep f65_mo f65_u1 (by simp)
      have f73_u2 : G73 u2 = some (.inl (Z.2 2, 768, .inl mf)) := by rw [← eG73]; exact gup_keep f65_mo f65_u2 (by simp)
      have f73_u3 : G73 u3 = some (.inl (Z.2 2, 744, .inl ff)) := by rw [← eG73]; exact gup_keep f65_mo f65_u3 (by simp)
      have f73_u4 : G73 u4 = some (.inl (Z.2 2, 24, .inl gf)) := by rw [← eG73]; exact gup_keep f65_mo f65_u4 (by simp)
      have f73_u6 : G73 u6 = some (.inl (Z.2 2, 16, .inl tf)) := by rw [← eG73]; exact gup_keep f65_mo f65_u6 (by simp)
      have f73_u7 : G73 u7 = some (.inl (Z.2 1, 16, .inl bf)) := by rw [← eG73]; exact gup_keep f65_mo f65_u7 (by simp)
      have f73_u5 : G73 u5 = some (.inl (Z.2 1, 24, .inl (upd sf M (-1)))) := by rw [← eG73]; exact gup_keep f65_mo f65 (by simp)
      have f73 : G73 mo = some (.inr (4, [.int 0, .int (nI C), .int (nI E), .ref u1, .ref u2, .ref u3, .ref u4, .ref u5, .int (nI (M + 1)), .int (nI D), .ref u6, .int fl, .ref u7])) := by rw [← eG73]; exact gup_self _ _ _
      have hK : gKe (moI mo u1 u2 u3 u4 u5 u6 u7) G G73 := by rw [← eG73]; exact hK.up (by simp [moI])
      refine lv_aload_n hx hb d_mo_pattern_76 rfl (lv_at hl 0 rfl) ?_
      refine g_get S hE.1 hG.1 f73 rfl in_mo 8 (by decide) tw_499 (fun _ h9 => h9) rfl d_mo_pattern_77 ?_
      refine lv_iconst (v := 1) hx hb d_mo_pattern_80 (by decide) ?_
      refine lv_isub hx hb d_mo_pattern_81 ?_
      refine g_topi (y := nI M) (nI_pred M) ?_
      refine W.widen (k := 0) (n := 0) (Nat.le_of_ble_eq_true rfl) (Nat.le_of_ble_eq_true rfl) ?_
      exact (W.iret hx hb hr (fun t9 ht9 hW9 => ⟨⟨_, _, rfl, ⟨hK, Or.inr ⟨by omega, rfl, fun q => ⟨_, _, _, _, _, _, _, ⟨f73, f73_u1, f73_u2, f73_u3, f73_u4, f73_u5, f73_u6, f73_u7, n12, n45, n67⟩, hR.push (by omega) q (fun k9 h9 => hca k9 (by omega)) hcb, hT, hC, hE8, hfl⟩⟩⟩, by rw [ht9]; exact hG.1, hG.2.1⟩, hG.2.2.1.F ht9⟩) hG.2.2.1.2.2 d_mo_pattern_82)
    · refine lv_aload_n hx hb d_mo_pattern_35 rfl (lv_at hl 0 rfl) ?_
      refine g_get S hE.1 hG.1 hmo29 rfl in_mo 3 (by decide) tw_494 (fun _ h9 => h9) rfl d_mo_pattern_36 ?_
      refine lv_bipush (v := nI 32) hx hb d_mo_pattern_39 (by decide) ?_
      refine lv_aload_n hx hb d_mo_pattern_41 rfl (lv_at hl 0 rfl) ?_
      refine g_get S hE.1 hG.1 hmo29 rfl in_mo 8 (by decide) tw_499 (fun _ h9 => h9) rfl d_mo_pattern_42 ?_
      refine lv_imul hx hb d_mo_pattern_45 ?_
      refine g_topi (y := nI (32 * M)) (pk_mul 32 M) ?_
      refine lv_iload_n hx hb d_mo_pattern_46 rfl (lv_at hl 1 rfl) ?_
      refine lv_iadd hx hb d_mo_pattern_47 ?_
      refine g_topi (y := nI ((32 * M) + k)) (nI_add (32 * M) k) ?_
      refine lv_iconst (v := (-1)) hx hb d_mo_pattern_48 (by decide) ?_
      refine g_iast S hE.1 hG hc129 1 rfl (vp_in_nI (by omega) (by omega)) d_mo_pattern_49 (fun H locs hG => ?_)
      rw [nI_clamp (show ((32 * M) + k) < 2 ^ 31 by omega)] at hG
      have hG : gS (gA G s.heap.size) s.heap Z.1 cls (gup Gx u1 (.inl (Z.2 1, 768, .inl (upd c9 ((32 * M) + k) (-1))))) H locs := hG
      generalize eG49 : gup Gx u1 (.inl (Z.2 1, 768, .inl (upd c9 ((32 * M) + k) (-1)))) = G49 at hG
      have f49_mo : G49 mo = some (.inr (4, [.int 0, .int (nI C), .int (nI E), .ref u1, .ref u2, .ref u3, .ref u4, .ref u5, .int (nI M), .int (nI D), .ref u6, .int fl, .ref u7])) := by rw [← eG49]; exact gup_keep hc129 hmo29 (by simp)
      have f49_u2 : G49 u2 = some (.inl (Z.2 2, 768, .inl mf)) := by rw [← eG49]; exact (gup_ne _ _ (Ne.symm n12)).trans hc229
      have f49_u3 : G49 u3 = some (.inl (Z.2 2, 744, .inl ff)) := by rw [← eG49]; exact gup_keep hc129 hc329 (by simp)
      have f49_u4 : G49 u4 = some (.inl (Z.2 2, 24, .inl gf)) := by rw [← eG49]; exact gup_keep hc129 hc429 (by simp)
      have f49_u5 : G49 u5 = some (.inl (Z.2 1, 24, .inl sf)) := by rw [← eG49]; exact gup_keep hc129 hc529 (by simp)
      have f49_u6 : G49 u6 = some (.inl (Z.2 2, 16, .inl tf)) := by rw [← eG49]; exact gup_keep hc129 hc629 (by simp)
      have f49_u7 : G49 u7 = some (.inl (Z.2 1, 16, .inl bf)) := by rw [← eG49]; exact gup_keep hc129 hc729 (by simp)
      have f49 : G49 u1 = some (.inl (Z.2 1, 768, .inl (upd c9 ((32 * M) + k) (-1)))) := by rw [← eG49]; exact gup_self _ _ _
      have hK : gKe (moI mo u1 u2 u3 u4 u5 u6 u7) G G49 := by rw [← eG49]; exact hK.up (by simp [moI])
      refine lv_iinc (v := nI (k + 1)) (lv' := [(1, .int (nI (k + 1))), (0, .ref mo)]) hx hb d_mo_pattern_50 hl (k := 1) rfl (show nI k + 1 = _ from nI_1 k) (by decide) rfl (fun ls hl => ?_)
      refine lv_goto (tgt := 29) hx hb d_mo_pattern_53 (by decide) ?_
      exact ih29 ((k + 1), upd c9 (32 * M + k) (-1), G49) _ _ _ ⟨⟨⟨by omega, fun j h9 => by
          by_cases e9 : j = k
          · subst e9; exact pk_us
          · rw [pk_un (by omega)]; exact hca j (by omega), fun j h9 => by rw [pk_un (by omega)]; exact hcb j h9⟩, hK, ⟨f49_mo, f49, f49_u2, f49_u3, f49_u4, f49_u5, f49_u6, f49_u7, n12, n45, n67⟩⟩, hG, lv_sub hl [1, 0] rfl⟩ (by first | omega | (simp only []; omega))
  · refine lv_iconst (v := 1) hx hb d_mo_pattern_10 (by decide) ?_
    refine lv_goto (tgt := 15) hx hb d_mo_pattern_11 (by decide) ?_
    refine g_put S hE.1 hG hmo rfl in_mo ty_mo tyok_mo nm_mo 0 (by decide) tw_491 (fun _ h9 => h9) rfl (ty := .int) (by decide +kernel) rfl rfl (Nat.le_of_ble_eq_true rfl) d_mo_pattern_15 (fun H locs hG => ?_)
    have hG : gS (gA G s.heap.size) s.heap Z.1 cls (gup G mo (.inr (4, [.int 1, .int (nI C), .int (nI E), .ref u1, .ref u2, .ref u3, .ref u4, .ref u5, .int (nI M), .int (nI D), .ref u6, .int fl, .ref u7]))) H locs := hG
    generalize eG15 : gup G mo (.inr (4, [.int 1, .int (nI C), .int (nI E), .ref u1, .ref u2, .ref u3, .ref u4, .ref u5, .int (nI M), .int (nI D), .ref u6, .int fl, .ref u7])) = G15 at hG
    have f15_u1 : G15 u1 = some (.inl (Z.2 1, 768, .inl cf)) := by rw [← eG15]; exact gup_keep hmo hc1 (by simp)
    have f15_u2 : G15 u2 = some (.inl (Z.2 2, 768, .inl mf)) := by rw [← eG15]; exact gup_keep hmo hc2 (by simp)
    have f15_u3 : G15 u3 = some (.inl (Z.2 2, 744, .inl ff)) := by rw [← eG15]; exact gup_keep hmo hc3 (by simp)
    have f15_u4 : G15 u4 = some (.inl (Z.2 2, 24, .inl gf)) := by rw [← eG15]; exact gup_keep hmo hc4 (by simp)
    have f15_u5 : G15 u5 = some (.inl (Z.2 1, 24, .inl sf)) := by rw [← eG15]; exact gup_keep hmo hc5 (by simp)
    have f15_u6 : G15 u6 = some (.inl (Z.2 2, 16, .inl tf)) := by rw [← eG15]; exact gup_keep hmo hc6 (by simp)
    have f15_u7 : G15 u7 = some (.inl (Z.2 1, 16, .inl bf)) := by rw [← eG15]; exact gup_keep hmo hc7 (by simp)
    have f15 : G15 mo = some (.inr (4, [.int 1, .int (nI C), .int (nI E), .ref u1, .ref u2, .ref u3, .ref u4, .ref u5, .int (nI M), .int (nI D), .ref u6, .int fl, .ref u7])) := by rw [← eG15]; exact gup_self _ _ _
    have hK : gKe (moI mo u1 u2 u3 u4 u5 u6 u7) G G15 := by rw [← eG15]; exact hK.up (by simp [moI])
    refine lv_aload_n hx hb d_mo_pattern_18 rfl (lv_at hl 0 rfl) ?_
    refine g_get S hE.1 hG.1 f15 rfl in_mo 0 (by decide) tw_491 (fun _ h9 => h9) rfl d_mo_pattern_19 ?_
    refine lv_if_le (tgt := 27) hx hb d_mo_pattern_22 (by decide) (fun c22 => absurd c22 (by decide)) (fun c22 => ?_)
    refine lv_iconst (v := 0) hx hb d_mo_pattern_25 (by decide) ?_
    refine W.widen (k := 0) (n := 0) (Nat.le_of_ble_eq_true rfl) (Nat.le_of_ble_eq_true rfl) ?_
    exact (W.iret hx hb hr (fun t9 ht9 hW9 => ⟨⟨_, _, rfl, ⟨hK, Or.inl ⟨c7, ⟨_, _, _, _, _, _, _, ⟨f15, f15_u1, f15_u2, f15_u3, f15_u4, f15_u5, f15_u6, f15_u7, n12, n45, n67⟩, hR, hT, hC, hE8, hfl⟩⟩⟩, by rw [ht9]; exact hG.1, hG.2.1⟩, hG.2.2.1.F ht9⟩) hG.2.2.1.2.2 d_mo_pattern_26)

set_option maxHeartbeats 600000 in
set_option maxRecDepth 100000 in
theorem c_mo_care (l : Launch) (Z : gZ) (G : gh) (sz : Nat) (mo : Nat) {u1 u2 u3 u4 u5 u6 u7 : Nat} {th : Int32} {C E M D : Nat} {fl tp : Int32} {pt : Nat → Option Nat} {pd : Nat → Pat} (hQ : moQ Z G mo u1 u2 u3 u4 u5 u6 u7 th C E M D fl tp pt pd) (n c0 e0 v : Int32) : Met l y_mo_care (wd_mo_care :: Gall) ({ frames := 1, cells := 0, slots := 0, locals := 23 }) (va_Pc [.ref mo, .int n, .int c0, .int e0, .int v] (gPw Z G sz)) (va_Qi (fun (r : Int32) (G9 : gh) => gKe (moI mo u1 u2 u3 u4 u5 u6 u7) G G9 ∧ ((((∀ j, ¬ okP pt pd n j) ∨ (¬ ∃ k j, k < C ∧ j < E ∧ c0 = nI k ∧ e0 = nI j)) ∧ moQ Z G9 mo u1 u2 u3 u4 u5 u6 u7 1 C E M D fl tp pt pd) ∨ ((∃ j, okP pt pd n j) ∧ (∃ k j, k < C ∧ j < E ∧ c0 = nI k ∧ e0 = nI j) ∧ ¬ (v = -1 ∨ v = 0 ∨ v = 1) ∧ moQ Z G9 mo u1 u2 u3 u4 u5 u6 u7 2 C E M D fl tp pt pd) ∨ (∃ j k q, okP pt pd n j ∧ k < C ∧ q < E ∧ c0 = nI k ∧ e0 = nI q ∧ (v = -1 ∨ v = 0 ∨ v = 1) ∧ ((carC (pca (pd j)) (pva (pd j)) (plC (nI k) (nI q)) = v ∧ r = 0 ∧ moQ Z G9 mo u1 u2 u3 u4 u5 u6 u7 0 C E M D fl tp pt pd) ∨ (¬ carC (pca (pd j)) (pva (pd j)) (plC (nI k) (nI q)) = v ∧ r = 1 ∧ moQ Z G9 mo u1 u2 u3 u4 u5 u6 u7 0 C E M D fl tp pt (va_up pd j (qcare (pd j) (plC (nI k) (nI q)) v))))))) (gW Z G sz) (gA G sz)) 0 0 (gA G sz) := by
  refine Met.ofW (cc := b_mo_care) (maxL := 7) (ret := (some .boolean)) (by decide) rfl ?_
  intro p e s m args below meth c s₁ B hml hv
  obtain ⟨rfl, hsz, hG, hE⟩ := hv
  subst hsz
  have hx := B.exec
  have hb := B.bytes
  have hr := B.returns
  have hlocks := B.notSynchronized
  have S : CallFix p m c b_mo_care 7 s _ Gall "PackSeedsModel" := ⟨hx, hb, hml, findClass_of_methodNamed B.named, fun w hw => atoms_spec (ws := wd_mo_care :: Gall) B.pre w (List.mem_cons_of_mem _ hw)⟩
  have hG : gS (gA G s.heap.size) s.heap Z.1 cls G s.heap [] := gS.start hG
  have hl := lv_entry ([.ref mo, .int n, .int c0, .int e0, .int v]) (n := 7) (Nat.le_of_ble_eq_true rfl)
  rw [lg_entry_eq]
  generalize (lg_sl ([.ref mo, .int n, .int c0, .int e0, .int v]) ++ List.replicate (7 - (lg_sl ([.ref mo, .int n, .int c0, .int e0, .int v])).length) Slot.unset).toArray = ls at hl ⊢
  have hl : lv_has ls 7 [(0, .ref mo), (1, .int n), (2, .int c0), (3, .int e0), (4, .int v)] := hl
  have hK : gKe (moI mo u1 u2 u3 u4 u5 u6 u7) G G := gKe.rf
  obtain ⟨cf, mf, ff, gf, sf, tf, bf, hP, hR, hT, hC, hE8, hfl⟩ := hQ
  have hP0 := hP
  obtain ⟨hmo, hc1, hc2, hc3, hc4, hc5, hc6, hc7, n12, n45, n67⟩ := hP
  have hM24 := hR.1
  have hD1 := hT.1
  have hD16 := hT.2.1
  refine lv_aload_n hx hb d_mo_care_0 rfl (lv_at hl 0 rfl) ?_
  refine lv_aload_n hx hb d_mo_care_1 rfl (lv_at hl 0 rfl) ?_
  refine lv_iload_n hx hb d_mo_care_2 rfl (lv_at hl 1 rfl) ?_
  refine g_reti (g_runV (As := [.int n]) (rest := [.ref mo]) S lk_mo_48 k_mo_is (c_mo_is l Z G mo hP0 hR n) ⟨rfl, rfl⟩ ⟨Nat.le_of_ble_eq_true rfl, Nat.le_of_ble_eq_true rfl⟩ (gPreV hG.1 hE hmo rfl) rfl hl.1 rfl (Nat.le_of_ble_eq_true rfl) d_mo_care_3 ⟨Nat.le_of_ble_eq_true rfl, Nat.le_of_ble_eq_true rfl⟩) (fun r3 h3 => ?_)
  refine lv_if_eq (tgt := 18) hx hb d_mo_care_6 (by decide) (fun c6 => ?_) (fun c6 => ?_)
  · refine lv_iconst (v := 1) hx hb d_mo_care_18 (by decide) ?_
    refine lv_goto (tgt := 39) hx hb d_mo_care_19 (by decide) ?_
    refine g_put S hE.1 hG hmo rfl in_mo ty_mo tyok_mo nm_mo 0 (by decide) tw_491 (fun _ h9 => h9) rfl (ty := .int) (by decide +kernel) rfl rfl (Nat.le_of_ble_eq_true rfl) d_mo_care_39 (fun H locs hG => ?_)
    have hG : gS (gA G s.heap.size) s.heap Z.1 cls (gup G mo (.inr (4, [.int 1, .int (nI C), .int (nI E), .ref u1, .ref u2, .ref u3, .ref u4, .ref u5, .int (nI M), .int (nI D), .ref u6, .int fl, .ref u7]))) H locs := hG
    generalize eG39 : gup G mo (.inr (4, [.int 1, .int (nI C), .int (nI E), .ref u1, .ref u2, .ref u3, .ref u4, .ref u5, .int (nI M), .int (nI D), .ref u6, .int fl, .ref u7])) = G39 at hG
    have f39_u1 : G39 u1 = some (.inl (Z.2 1, 768, .inl cf)) := by rw [← eG39]; exact gup_keep hmo hc1 (by simp)
    have f39_u2 : G39 u2 = some (.inl (Z.2 2, 768, .inl mf)) := by rw [← eG39]; exact gup_keep hmo hc2 (by simp)
    have f39_u3 : G39 u3 = some (.inl (Z.2 2, 744, .inl ff)) := by rw [← eG39]; exact gup_keep hmo hc3 (by simp)
    have f39_u4 : G39 u4 = some (.inl (Z.2 2, 24, .inl gf)) := by rw [← eG39]; exact gup_keep hmo hc4 (by simp)
    have f39_u5 : G39 u5 = some (.inl (Z.2 1, 24, .inl sf)) := by rw [← eG39]; exact gup_keep hmo hc5 (by simp)
    have f39_u6 : G39 u6 = some (.inl (Z.2 2, 16, .inl tf)) := by rw [← eG39]; exact gup_keep hmo hc6 (by simp)
    have f39_u7 : G39 u7 = some (.inl (Z.2 1, 16, .inl bf)) := by rw [← eG39]; exact gup_keep hmo hc7 (by simp)
    have f39 : G39 mo = some (.inr (4, [.int 1, .int (nI C), .int (nI E), .ref u1, .ref u2, .ref u3, .ref u4, .ref u5, .int (nI M), .int (nI D), .ref u6, .int fl, .ref u7])) := by rw [← eG39]; exact gup_self _ _ _
    have hK : gKe (moI mo u1 u2 u3 u4 u5 u6 u7) G G39 := by rw [← eG39]; exact hK.up (by simp [moI])
    refine lv_aload_n hx hb d_mo_care_42 rfl (lv_at hl 0 rfl) ?_
    refine g_get S hE.1 hG.1 f39 rfl in_mo 0 (by decide) tw_491 (fun _ h9 => h9) rfl d_mo_care_43 ?_
    refine lv_if_le (tgt := 51) hx hb d_mo_care_46 (by decide) (fun c46 => absurd c46 (by decide)) (fun c46 => ?_)
    refine lv_iconst (v := 0) hx hb d_mo_care_49 (by decide) ?_
    refine W.widen (k := 0) (n := 0) (Nat.le_of_ble_eq_true rfl) (Nat.le_of_ble_eq_true rfl) ?_
    exact (W.zret hx hb hr rfl (fun t9 ht9 hW9 => ⟨⟨_, _, rfl, ⟨hK, Or.inl ⟨(by first | exact Or.inl (isNo h3 c6) | exact Or.inr (isNo h12 c15)), ⟨_, _, _, _, _, _, _, ⟨f39, f39_u1, f39_u2, f39_u3, f39_u4, f39_u5, f39_u6, f39_u7, n12, n45, n67⟩, hR, hT, hC, hE8, hfl⟩⟩⟩, by rw [ht9]; exact hG.1, hG.2.1⟩, hG.2.2.1.F ht9⟩) hG.2.2.1.2.2 d_mo_care_50)
  · refine lv_aload_n hx hb d_mo_care_9 rfl (lv_at hl 0 rfl) ?_
    refine lv_iload_n hx hb d_mo_care_10 rfl (lv_at hl 2 rfl) ?_
    refine lv_iload_n hx hb d_mo_care_11 rfl (lv_at hl 3 rfl) ?_
    refine g_reti (g_runV (As := [.int c0, .int e0]) (rest := [.ref mo]) S lk_mo_52 k_mo_isCell (c_mo_isCell l Z G mo hP0 hC hE8 c0 e0) ⟨rfl, rfl⟩ ⟨Nat.le_of_ble_eq_true rfl, Nat.le_of_ble_eq_true rfl⟩ (gPreV hG.1 hE hmo rfl) rfl hl.1 rfl (Nat.le_of_ble_eq_true rfl) d_mo_care_12 ⟨Nat.le_of_ble_eq_true rfl, Nat.le_of_ble_eq_true rfl⟩) (fun r12 h12 => ?_)
    refine lv_if_ne (tgt := 22) hx hb d_mo_care_15 (by decide) (fun c15 => ?_) (fun c15 => ?_)
    · refine lv_iload hx hb d_mo_care_22 (lv_at hl 4 rfl) ?_
      refine lv_iconst (v := (-1)) hx hb d_mo_care_24 (by decide) ?_
      refine lv_icmp_lt (tgt := 34) hx hb d_mo_care_25 (by decide) (fun c25 => ?_) (fun c25 => ?_)
      · refine lv_iconst (v := 2) hx hb d_mo_care_34 (by decide) ?_
        refine lv_goto (tgt := 39) hx hb d_mo_care_35 (by decide) ?_
        refine g_put S hE.1 hG hmo rfl in_mo ty_mo tyok_mo nm_mo 0 (by decide) tw_491 (fun _ h9 => h9) rfl (ty := .int) (by decide +kernel) rfl rfl (Nat.le_of_ble_eq_true rfl) d_mo_care_39 (fun H locs hG => ?_)
        have hG : gS (gA G s.heap.size) s.heap Z.1 cls (gup G mo (.inr (4, [.int 2, .int (nI C), .int (nI E), .ref u1, .ref u2, .ref u3, .ref u4, .ref u5, .int (nI M), .int (nI D), .ref u6, .int fl, .ref u7]))) H locs := hG
        generalize eG39 : gup G mo (.inr (4, [.int 2, .int (nI C), .int (nI E), .ref u1, .ref u2, .ref u3, .ref u4, .ref u5, .int (nI M), .int (nI D), .ref u6, .int fl, .ref u7])) = G39 at hG
        have f39_u1 : G39 u1 = some (.inl (Z.2 1, 768, .inl cf)) := by rw [← eG39]; exact gup_keep hmo hc1 (by simp)
        have f39_u2 : G39 u2 = some (.inl (Z.2 2, 768, .inl mf)) := by rw [← eG39]; exact gup_keep hmo hc2 (by simp)
        have f39_u3 : G39 u3 = some (.inl (Z.2 2, 744, .inl ff)) := by rw [← eG39]; exact gup_keep hmo hc3 (by simp)
        have f39_u4 : G39 u4 = some (.inl (Z.2 2, 24, .inl gf)) := by rw [← eG39]; exact gup_keep hmo hc4 (by simp)
        have f39_u5 : G39 u5 = some (.inl (Z.2 1, 24, .inl sf)) := by rw [← eG39]; exact gup_keep hmo hc5 (by simp)
        have f39_u6 : G39 u6 = some (.inl (Z.2 2, 16, .inl tf)) := by rw [← eG39]; exact gup_keep hmo hc6 (by simp)
        have f39_u7 : G39 u7 = some (.inl (Z.2 1, 16, .inl bf)) := by rw [← eG39]; exact gup_keep hmo hc7 (by simp)
        have f39 : G39 mo = some (.inr (4, [.int 2, .int (nI C), .int (nI E), .ref u1, .ref u2, .ref u3, .ref u4, .ref u5, .int (nI M), .int (nI D), .ref u6, .int fl, .ref u7])) := by rw [← eG39]; exact gup_self _ _ _
        have hK : gKe (moI mo u1 u2 u3 u4 u5 u6 u7) G G39 := by rw [← eG39]; exact hK.up (by simp [moI])
        refine lv_aload_n hx hb d_mo_care_42 rfl (lv_at hl 0 rfl) ?_
        refine g_get S hE.1 hG.1 f39 rfl in_mo 0 (by decide) tw_491 (fun _ h9 => h9) rfl d_mo_care_43 ?_
        refine lv_if_le (tgt := 51) hx hb d_mo_care_46 (by decide) (fun c46 => absurd c46 (by decide)) (fun c46 => ?_)
        refine lv_iconst (v := 0) hx hb d_mo_care_49 (by decide) ?_
        refine W.widen (k := 0) (n := 0) (Nat.le_of_ble_eq_true rfl) (Nat.le_of_ble_eq_true rfl) ?_
        exact (W.zret hx hb hr rfl (fun t9 ht9 hW9 => ⟨⟨_, _, rfl, ⟨hK, Or.inr (Or.inl ⟨isOk h3 c6, isOk h12 c15, (by first | exact vno1 c25 | exact vno2 c31), ⟨_, _, _, _, _, _, _, ⟨f39, f39_u1, f39_u2, f39_u3, f39_u4, f39_u5, f39_u6, f39_u7, n12, n45, n67⟩, hR, hT, hC, hE8, hfl⟩⟩)⟩, by rw [ht9]; exact hG.1, hG.2.1⟩, hG.2.2.1.F ht9⟩) hG.2.2.1.2.2 d_mo_care_50)
      · refine lv_iload hx hb d_mo_care_28 (lv_at hl 4 rfl) ?_
        refine lv_iconst (v := 1) hx hb d_mo_care_30 (by decide) ?_
        refine lv_icmp_le (tgt := 38) hx hb d_mo_care_31 (by decide) (fun c31 => ?_) (fun c31 => ?_)
        · refine lv_iconst (v := 0) hx hb d_mo_care_38 (by decide) ?_
          refine g_put S hE.1 hG hmo rfl in_mo ty_mo tyok_mo nm_mo 0 (by decide) tw_491 (fun _ h9 => h9) rfl (ty := .int) (by decide +kernel) rfl rfl (Nat.le_of_ble_eq_true rfl) d_mo_care_39 (fun H locs hG => ?_)
          have hG : gS (gA G s.heap.size) s.heap Z.1 cls (gup G mo (.inr (4, [.int 0, .int (nI C), .int (nI E), .ref u1, .ref u2, .ref u3, .ref u4, .ref u5, .int (nI M), .int (nI D), .ref u6, .int fl, .ref u7]))) H locs := hG
          generalize eG39 : gup G mo (.inr (4, [.int 0, .int (nI C), .int (nI E), .ref u1, .ref u2, .ref u3, .ref u4, .ref u5, .int (nI M), .int (nI D), .ref u6, .int fl, .ref u7])) = G39 at hG
          have f39_u1 : G39 u1 = some (.inl (Z.2 1, 768, .inl cf)) := by rw [← eG39]; exact gup_keep hmo hc1 (by simp)
          have f39_u2 : G39 u2 = some (.inl (Z.2 2, 768, .inl mf)) := by rw [← eG39]; exact gup_keep hmo hc2 (by simp)
          have f39_u3 : G39 u3 = some (.inl (Z.2 2, 744, .inl ff)) := by rw [← eG39]; exact gup_keep hmo hc3 (by simp)
          have f39_u4 : G39 u4 = some (.inl (Z.2 2, 24, .inl gf)) := by rw [← eG39]; exact gup_keep hmo hc4 (by simp)
          have f39_u5 : G39 u5 = some (.inl (Z.2 1, 24, .inl sf)) := by rw [← eG39]; exact gup_keep hmo hc5 (by simp)
          have f39_u6 : G39 u6 = some (.inl (Z.2 2, 16, .inl tf)) := by rw [← eG39]; exact gup_keep hmo hc6 (by simp)
          have f39_u7 : G39 u7 = some (.inl (Z.2 1, 16, .inl bf)) := by rw [← eG39]; exact gup_keep hmo hc7 (by simp)
          have f39 : G39 mo = some (.inr (4, [.int 0, .int (nI C), .int (nI E), .ref u1, .ref u2, .ref u3, .ref u4, .ref u5, .int (nI M), .int (nI D), .ref u6, .int fl, .ref u7])) := by rw [← eG39]; exact gup_self _ _ _
          have hK : gKe (moI mo u1 u2 u3 u4 u5 u6 u7) G G39 := by rw [← eG39]; exact hK.up (by simp [moI])
          refine lv_aload_n hx hb d_mo_care_42 rfl (lv_at hl 0 rfl) ?_
          refine g_get S hE.1 hG.1 f39 rfl in_mo 0 (by decide) tw_491 (fun _ h9 => h9) rfl d_mo_care_43 ?_
          refine lv_if_le (tgt := 51) hx hb d_mo_care_46 (by decide) (fun c46 => ?_) (fun c46 => absurd c46 (by decide))
          obtain ⟨j, hj⟩ := isOk h3 c6
          obtain ⟨ej, hjM, hgj⟩ := hR.ok.mp hj
          have hj0 := hj
          subst ej
          obtain ⟨k, q, hk, hq, ek, eq⟩ := isOk h12 c15
          subst ek
          subst eq
          have hcv := hR.carV hjM hgj (show k < 4 by omega) (show q < 8 by omega)
          refine lv_aload_n hx hb d_mo_care_51 rfl (lv_at hl 0 rfl) ?_
          refine lv_iload_n hx hb d_mo_care_52 rfl (lv_at hl 1 rfl) ?_
          refine lv_iload_n hx hb d_mo_care_53 rfl (lv_at hl 2 rfl) ?_
          refine lv_iload_n hx hb d_mo_care_54 rfl (lv_at hl 3 rfl) ?_
          refine g_reti (g_runV (As := [.int (nI j), .int (nI k), .int (nI q)]) (rest := []) S lk_mo_56 k_mo_place (c_mo_place l Z G39 mo j k q) ⟨rfl, rfl⟩ ⟨Nat.le_of_ble_eq_true rfl, Nat.le_of_ble_eq_true rfl⟩ (gPreV hG.1 hE f39 rfl) rfl hl.1 rfl (Nat.le_of_ble_eq_true rfl) d_mo_care_55 ⟨Nat.le_of_ble_eq_true rfl, Nat.le_of_ble_eq_true rfl⟩) (fun r55 h55 => ?_)
          refine g_topi (y := nI (32 * j + (8 * k + q))) h55 ?_
          refine lv_istore (lv' := [(5, .int (nI (32 * j + (8 * k + q)))), (0, .ref mo), (1, .int (nI j)), (2, .int (nI k)), (3, .int (nI q)), (4, .int v)]) hx hb d_mo_care_58 hl (by decide) rfl (fun ls hl => ?_)
          refine lv_aload_n hx hb d_mo_care_60 rfl (lv_at hl 1 rfl) ?_
          refine g_get S hE.1 hG.1 f39 rfl in_mo 3 (by decide) tw_494 (fun _ h9 => h9) rfl d_mo_care_61 ?_
          refine lv_iload hx hb d_mo_care_64 (lv_at hl 0 rfl) ?_
          refine g_iald S hE.1 hG.1 f39_u1 1 rfl (vp_in_nI (by omega) (by omega)) d_mo_care_66 ?_
          refine g_topi (congrArg cf (nI_clamp (show (32 * j + (8 * k + q)) < 2 ^ 31 by omega))) ?_
          refine lv_iload hx hb d_mo_care_67 (lv_at hl 5 rfl) ?_
          refine lv_icmp_eq (tgt := 76) hx hb d_mo_care_69 (by decide) (fun c69 => ?_) (fun c69 => ?_)
          · refine lv_iconst (v := 0) hx hb d_mo_care_76 (by decide) ?_
            refine lv_istore (lv' := [(6, .int 0), (5, .int (nI (32 * j + (8 * k + q)))), (0, .ref mo), (1, .int (nI j)), (2, .int (nI k)), (3, .int (nI q)), (4, .int v)]) hx hb d_mo_care_77 hl (by decide) rfl (fun ls hl => ?_)
            refine lv_aload_n hx hb d_mo_care_79 rfl (lv_at hl 2 rfl) ?_
            refine g_get S hE.1 hG.1 f39 rfl in_mo 3 (by decide) tw_494 (fun _ h9 => h9) rfl d_mo_care_80 ?_
            refine lv_iload hx hb d_mo_care_83 (lv_at hl 1 rfl) ?_
            refine lv_iload hx hb d_mo_care_85 (lv_at hl 6 rfl) ?_
            refine g_iast S hE.1 hG f39_u1 1 rfl (vp_in_nI (by omega) (by omega)) d_mo_care_87 (fun H locs hG => ?_)
            rw [nI_clamp (show (32 * j + (8 * k + q)) < 2 ^ 31 by omega)] at hG
            have hG : gS (gA G s.heap.size) s.heap Z.1 cls (gup G39 u1 (.inl (Z.2 1, 768, .inl (upd cf (32 * j + (8 * k + q)) v)))) H locs := hG
            generalize eG87 : gup G39 u1 (.inl (Z.2 1, 768, .inl (upd cf (32 * j + (8 * k + q)) v))) = G87 at hG
            have f87_u2 : G87 u2 = some (.inl (Z.2 2, 768, .inl mf)) := by rw [← eG87]; exact (gup_ne _ _ (Ne.symm n12)).trans f39_u2
            have f87_u3 : G87 u3 = some (.inl (Z.2 2, 744, .inl ff)) := by rw [← eG87]; exact gup_keep f39_u1 f39_u3 (by simp)
            have f87_u4 : G87 u4 = some (.inl (Z.2 2, 24, .inl gf)) := by rw [← eG87]; exact gup_keep f39_u1 f39_u4 (by simp)
            have f87_u5 : G87 u5 = some (.inl (Z.2 1, 24, .inl sf)) := by rw [← eG87]; exact gup_keep f39_u1 f39_u5 (by simp)
            have f87_u6 : G87 u6 = some (.inl (Z.2 2, 16, .inl tf)) := by rw [← eG87]; exact gup_keep f39_u1 f39_u6 (by simp)
            have f87_u7 : G87 u7 = some (.inl (Z.2 1, 16, .inl bf)) := by rw [← eG87]; exact gup_keep f39_u1 f39_u7 (by simp)
            have f87_mo : G87 mo = some (.inr (4, [.int 0, .int (nI C), .int (nI E), .ref u1, .ref u2, .ref u3, .ref u4, .ref u5, .int (nI M), .int (nI D), .ref u6, .int fl, .ref u7])) := by rw [← eG87]; exact gup_keep f39_u1 f39 (by simp)
            have f87 : G87 u1 = some (.inl (Z.2 1, 768, .inl (upd cf (32 * j + (8 * k + q)) v))) := by rw [← eG87]; exact gup_self _ _ _
            have hK : gKe (moI mo u1 u2 u3 u4 u5 u6 u7) G G87 := by rw [← eG87]; exact hK.up (by simp [moI])
            refine lv_aload_n hx hb d_mo_care_88 rfl (lv_at hl 2 rfl) ?_
            refine g_get S hE.1 hG.1 f87_mo rfl in_mo 7 (by decide) tw_498 (fun _ h9 => h9) rfl d_mo_care_89 ?_
            refine lv_iload_n hx hb d_mo_care_92 rfl (lv_at hl 3 rfl) ?_
            refine lv_iload hx hb d_mo_care_93 (lv_at hl 0 rfl) ?_
            refine lv_if_eq (tgt := 102) hx hb d_mo_care_95 (by decide) (fun c95 => ?_) (fun c95 => absurd c95 (by decide))
            refine lv_aload_n hx hb d_mo_care_102 rfl (lv_at hl 2 rfl) ?_
            refine g_get S hE.1 hG.1 f87_mo rfl in_mo 7 (by decide) tw_498 (fun _ h9 => h9) rfl d_mo_care_103 ?_
            refine lv_iload_n hx hb d_mo_care_106 rfl (lv_at hl 3 rfl) ?_
            refine g_iald S hE.1 hG.1 f87_u5 1 rfl (vp_in_nI (by omega) (by omega)) d_mo_care_107 ?_
            refine g_topi (congrArg sf (nI_clamp (show j < 2 ^ 31 by omega))) ?_
            refine g_iast S hE.1 hG f87_u5 1 rfl (vp_in_nI (by omega) (by omega)) d_mo_care_108 (fun H locs hG => ?_)
            rw [nI_clamp (show j < 2 ^ 31 by omega)] at hG
            have hG : gS (gA G s.heap.size) s.heap Z.1 cls (gup G87 u5 (.inl (Z.2 1, 24, .inl (upd sf j (sf j))))) H locs := hG
            generalize eG108 : gup G87 u5 (.inl (Z.2 1, 24, .inl (upd sf j (sf j)))) = G108 at hG
            have f108_u2 : G108 u2 = some (.inl (Z.2 2, 768, .inl mf)) := by rw [← eG108]; exact gup_keep f87_u5 f87_u2 (by simp)
            have f108_u3 : G108 u3 = some (.inl (Z.2 2, 744, .inl ff)) := by rw [← eG108]; exact gup_keep f87_u5 f87_u3 (by simp)
            have f108_u4 : G108 u4 = some (.inl (Z.2 2, 24, .inl gf)) := by rw [← eG108]; exact (gup_ne _ _ n45).trans f87_u4
            have f108_u6 : G108 u6 = some (.inl (Z.2 2, 16, .inl tf)) := by rw [← eG108]; exact gup_keep f87_u5 f87_u6 (by simp)
            have f108_u7 : G108 u7 = some (.inl (Z.2 1, 16, .inl bf)) := by rw [← eG108]; exact gup_keep f87_u5 f87_u7 (by simp)
            have f108_mo : G108 mo = some (.inr (4, [.int 0, .int (nI C), .int (nI E), .ref u1, .ref u2, .ref u3, .ref u4, .ref u5, .int (nI M), .int (nI D), .ref u6, .int fl, .ref u7])) := by rw [← eG108]; exact gup_keep f87_u5 f87_mo (by simp)
            have f108_u1 : G108 u1 = some (.inl (Z.2 1, 768, .inl (upd cf (32 * j + (8 * k + q)) v))) := by rw [← eG108]; exact gup_keep f87_u5 f87 (by simp)
            have f108 : G108 u5 = some (.inl (Z.2 1, 24, .inl (upd sf j (sf j)))) := by rw [← eG108]; exact gup_self _ _ _
            have hK : gKe (moI mo u1 u2 u3 u4 u5 u6 u7) G G108 := by rw [← eG108]; exact hK.up (by simp [moI])
            refine lv_iload hx hb d_mo_care_109 (lv_at hl 0 rfl) ?_
            refine W.widen (k := 0) (n := 0) (Nat.le_of_ble_eq_true rfl) (Nat.le_of_ble_eq_true rfl) ?_
            exact (W.zret hx hb hr rfl (fun t9 ht9 hW9 => ⟨⟨_, _, rfl, ⟨hK, Or.inr (Or.inr ⟨j, k, q, hj0, hk, hq, rfl, rfl, vok c25 c31, Or.inl ⟨by rw [hcv]; exact c69, rfl, ⟨_, _, _, _, _, _, _, ⟨f108_mo, f108_u1, f108_u2, f108_u3, f108_u4, f108, f108_u6, f108_u7, n12, n45, n67⟩, (by rw [upd_same c69, upd_same rfl]; exact hR), hT, hC, hE8, hfl⟩⟩⟩)⟩, by rw [ht9]; exact hG.1, hG.2.1⟩, hG.2.2.1.F ht9⟩) hG.2.2.1.2.2 d_mo_care_111)
          · refine lv_iconst (v := 1) hx hb d_mo_care_72 (by decide) ?_
            refine lv_goto (tgt := 77) hx hb d_mo_care_73 (by decide) ?_
            refine lv_istore (lv' := [(6, .int 1), (5, .int (nI (32 * j + (8 * k + q)))), (0, .ref mo), (1, .int (nI j)), (2, .int (nI k)), (3, .int (nI q)), (4, .int v)]) hx hb d_mo_care_77 hl (by decide) rfl (fun ls hl => ?_)
            refine lv_aload_n hx hb d_mo_care_79 rfl (lv_at hl 2 rfl) ?_
            refine g_get S hE.1 hG.1 f39 rfl in_mo 3 (by decide) tw_494 (fun _ h9 => h9) rfl d_mo_care_80 ?_
            refine lv_iload hx hb d_mo_care_83 (lv_at hl 1 rfl) ?_
            refine lv_iload hx hb d_mo_care_85 (lv_at hl 6 rfl) ?_
            refine g_iast S hE.1 hG f39_u1 1 rfl (vp_in_nI (by omega) (by omega)) d_mo_care_87 (fun H locs hG => ?_)
            rw [nI_clamp (show (32 * j + (8 * k + q)) < 2 ^ 31 by omega)] at hG
            have hG : gS (gA G s.heap.size) s.heap Z.1 cls (gup G39 u1 (.inl (Z.2 1, 768, .inl (upd cf (32 * j + (8 * k + q)) v)))) H locs := hG
            generalize eG87 : gup G39 u1 (.inl (Z.2 1, 768, .inl (upd cf (32 * j + (8 * k + q)) v))) = G87 at hG
            have f87_u2 : G87 u2 = some (.inl (Z.2 2, 768, .inl mf)) := by rw [← eG87]; exact (gup_ne _ _ (Ne.symm n12)).trans f39_u2
            have f87_u3 : G87 u3 = some (.inl (Z.2 2, 744, .inl ff)) := by rw [← eG87]; exact gup_keep f39_u1 f39_u3 (by simp)
            have f87_u4 : G87 u4 = some (.inl (Z.2 2, 24, .inl gf)) := by rw [← eG87]; exact gup_keep f39_u1 f39_u4 (by simp)
            have f87_u5 : G87 u5 = some (.inl (Z.2 1, 24, .inl sf)) := by rw [← eG87]; exact gup_keep f39_u1 f39_u5 (by simp)
            have f87_u6 : G87 u6 = some (.inl (Z.2 2, 16, .inl tf)) := by rw [← eG87]; exact gup_keep f39_u1 f39_u6 (by simp)
            have f87_u7 : G87 u7 = some (.inl (Z.2 1, 16, .inl bf)) := by rw [← eG87]; exact gup_keep f39_u1 f39_u7 (by simp)
            have f87_mo : G87 mo = some (.inr (4, [.int 0, .int (nI C), .int (nI E), .ref u1, .ref u2, .ref u3, .ref u4, .ref u5, .int (nI M), .int (nI D), .ref u6, .int fl, .ref u7])) := by rw [← eG87]; exact gup_keep f39_u1 f39 (by simp)
            have f87 : G87 u1 = some (.inl (Z.2 1, 768, .inl (upd cf (32 * j + (8 * k + q)) v))) := by rw [← eG87]; exact gup_self _ _ _
            have hK : gKe (moI mo u1 u2 u3 u4 u5 u6 u7) G G87 := by rw [← eG87]; exact hK.up (by simp [moI])
            refine lv_aload_n hx hb d_mo_care_88 rfl (lv_at hl 2 rfl) ?_
            refine g_get S hE.1 hG.1 f87_mo rfl in_mo 7 (by decide) tw_498 (fun _ h9 => h9) rfl d_mo_care_89 ?_
            refine lv_iload_n hx hb d_mo_care_92 rfl (lv_at hl 3 rfl) ?_
            refine lv_iload hx hb d_mo_care_93 (lv_at hl 0 rfl) ?_
            refine lv_if_eq (tgt := 102) hx hb d_mo_care_95 (by decide) (fun c95 => absurd c95 (by decide)) (fun c95 => ?_)
            refine lv_iconst (v := (-1)) hx hb d_mo_care_98 (by decide) ?_
            refine lv_goto (tgt := 108) hx hb d_mo_care_99 (by decide) ?_
            refine g_iast S hE.1 hG f87_u5 1 rfl (vp_in_nI (by omega) (by omega)) d_mo_care_108 (fun H locs hG => ?_)
            rw [nI_clamp (show j < 2 ^ 31 by omega)] at hG
            have hG : gS (gA G s.heap.size) s.heap Z.1 cls (gup G87 u5 (.inl (Z.2 1, 24, .inl (upd sf j (-1))))) H locs := hG
            generalize eG108 : gup G87 u5 (.inl (Z.2 1, 24, .inl (upd sf j (-1)))) = G108 at hG
            have f108_u2 : G108 u2 = some (.inl (Z.2 2, 768, .inl mf)) := by rw [← eG108]; exact gup_keep f87_u5 f87_u2 (by simp)
            have f108_u3 : G108 u3 = some (.inl (Z.2 2, 744, .inl ff)) := by rw [← eG108]; exact gup_keep f87_u5 f87_u3 (by simp)
            have f108_u4 : G108 u4 = some (.inl (Z.2 2, 24, .inl gf)) := by rw [← eG108]; exact (gup_ne _ _ n45).trans f87_u4
            have f108_u6 : G108 u6 = some (.inl (Z.2 2, 16, .inl tf)) := by rw [← eG108]; exact gup_keep f87_u5 f87_u6 (by simp)
            have f108_u7 : G108 u7 = some (.inl (Z.2 1, 16, .inl bf)) := by rw [← eG108]; exact gup_keep f87_u5 f87_u7 (by simp)
            have f108_mo : G108 mo = some (.inr (4, [.int 0, .int (nI C), .int (nI E), .ref u1, .ref u2, .ref u3, .ref u4, .ref u5, .int (nI M), .int (nI D), .ref u6, .int fl, .ref u7])) := by rw [← eG108]; exact gup_keep f87_u5 f87_mo (by simp)
            have f108_u1 : G108 u1 = some (.inl (Z.2 1, 768, .inl (upd cf (32 * j + (8 * k + q)) v))) := by rw [← eG108]; exact gup_keep f87_u5 f87 (by simp)
            have f108 : G108 u5 = some (.inl (Z.2 1, 24, .inl (upd sf j (-1)))) := by rw [← eG108]; exact gup_self _ _ _
            have hK : gKe (moI mo u1 u2 u3 u4 u5 u6 u7) G G108 := by rw [← eG108]; exact hK.up (by simp [moI])
            refine lv_iload hx hb d_mo_care_109 (lv_at hl 0 rfl) ?_
            refine W.widen (k := 0) (n := 0) (Nat.le_of_ble_eq_true rfl) (Nat.le_of_ble_eq_true rfl) ?_
            exact (W.zret hx hb hr rfl (fun t9 ht9 hW9 => ⟨⟨_, _, rfl, ⟨hK, Or.inr (Or.inr ⟨j, k, q, hj0, hk, hq, rfl, rfl, vok c25 c31, Or.inr ⟨by rw [hcv]; exact c69, rfl, ⟨_, _, _, _, _, _, _, ⟨f108_mo, f108_u1, f108_u2, f108_u3, f108_u4, f108, f108_u6, f108_u7, n12, n45, n67⟩, hR.cap hjM hgj hC hE8 hk hq (vok c25 c31), hT, hC, hE8, hfl⟩⟩⟩)⟩, by rw [ht9]; exact hG.1, hG.2.1⟩, hG.2.2.1.F ht9⟩) hG.2.2.1.2.2 d_mo_care_111)
        · refine lv_iconst (v := 2) hx hb d_mo_care_34 (by decide) ?_
          refine lv_goto (tgt := 39) hx hb d_mo_care_35 (by decide) ?_
          refine g_put S hE.1 hG hmo rfl in_mo ty_mo tyok_mo nm_mo 0 (by decide) tw_491 (fun _ h9 => h9) rfl (ty := .int) (by decide +kernel) rfl rfl (Nat.le_of_ble_eq_true rfl) d_mo_care_39 (fun H locs hG => ?_)
          have hG : gS (gA G s.heap.size) s.heap Z.1 cls (gup G mo (.inr (4, [.int 2, .int (nI C), .int (nI E), .ref u1, .ref u2, .ref u3, .ref u4, .ref u5, .int (nI M), .int (nI D), .ref u6, .int fl, .ref u7]))) H locs := hG
          generalize eG39 : gup G mo (.inr (4, [.int 2, .int (nI C), .int (nI E), .ref u1, .ref u2, .ref u3, .ref u4, .ref u5, .int (nI M), .int (nI D), .ref u6, .int fl, .ref u7])) = G39 at hG
          have f39_u1 : G39 u1 = some (.inl (Z.2 1, 768, .inl cf)) := by rw [← eG39]; exact gup_keep hmo hc1 (by simp)
          have f39_u2 : G39 u2 = some (.inl (Z.2 2, 768, .inl mf)) := by rw [← eG39]; exact gup_keep hmo hc2 (by simp)
          have f39_u3 : G39 u3 = some (.inl (Z.2 2, 744, .inl ff)) := by rw [← eG39]; exact gup_keep hmo hc3 (by simp)
          have f39_u4 : G39 u4 = some (.inl (Z.2 2, 24, .inl gf)) := by rw [← eG39]; exact gup_keep hmo hc4 (by simp)
          have f39_u5 : G39 u5 = some (.inl (Z.2 1, 24, .inl sf)) := by rw [← eG39]; exact gup_keep hmo hc5 (by simp)
          have f39_u6 : G39 u6 = some (.inl (Z.2 2, 16, .inl tf)) := by rw [← eG39]; exact gup_keep hmo hc6 (by simp)
          have f39_u7 : G39 u7 = some (.inl (Z.2 1, 16, .inl bf)) := by rw [← eG39]; exact gup_keep hmo hc7 (by simp)
          have f39 : G39 mo = some (.inr (4, [.int 2, .int (nI C), .int (nI E), .ref u1, .ref u2, .ref u3, .ref u4, .ref u5, .int (nI M), .int (nI D), .ref u6, .int fl, .ref u7])) := by rw [← eG39]; exact gup_self _ _ _
          have hK : gKe (moI mo u1 u2 u3 u4 u5 u6 u7) G G39 := by rw [← eG39]; exact hK.up (by simp [moI])
          refine lv_aload_n hx hb d_mo_care_42 rfl (lv_at hl 0 rfl) ?_
          refine g_get S hE.1 hG.1 f39 rfl in_mo 0 (by decide) tw_491 (fun _ h9 => h9) rfl d_mo_care_43 ?_
          refine lv_if_le (tgt := 51) hx hb d_mo_care_46 (by decide) (fun c46 => absurd c46 (by decide)) (fun c46 => ?_)
          refine lv_iconst (v := 0) hx hb d_mo_care_49 (by decide) ?_
          refine W.widen (k := 0) (n := 0) (Nat.le_of_ble_eq_true rfl) (Nat.le_of_ble_eq_true rfl) ?_
          exact (W.zret hx hb hr rfl (fun t9 ht9 hW9 => ⟨⟨_, _, rfl, ⟨hK, Or.inr (Or.inl ⟨isOk h3 c6, isOk h12 c15, (by first | exact vno1 c25 | exact vno2 c31), ⟨_, _, _, _, _, _, _, ⟨f39, f39_u1, f39_u2, f39_u3, f39_u4, f39_u5, f39_u6, f39_u7, n12, n45, n67⟩, hR, hT, hC, hE8, hfl⟩⟩)⟩, by rw [ht9]; exact hG.1, hG.2.1⟩, hG.2.2.1.F ht9⟩) hG.2.2.1.2.2 d_mo_care_50)
    · refine lv_iconst (v := 1) hx hb d_mo_care_18 (by decide) ?_
      refine lv_goto (tgt := 39) hx hb d_mo_care_19 (by decide) ?_
      refine g_put S hE.1 hG hmo rfl in_mo ty_mo tyok_mo nm_mo 0 (by decide) tw_491 (fun _ h9 => h9) rfl (ty := .int) (by decide +kernel) rfl rfl (Nat.le_of_ble_eq_true rfl) d_mo_care_39 (fun H locs hG => ?_)
      have hG : gS (gA G s.heap.size) s.heap Z.1 cls (gup G mo (.inr (4, [.int 1, .int (nI C), .int (nI E), .ref u1, .ref u2, .ref u3, .ref u4, .ref u5, .int (nI M), .int (nI D), .ref u6, .int fl, .ref u7]))) H locs := hG
      generalize eG39 : gup G mo (.inr (4, [.int 1, .int (nI C), .int (nI E), .ref u1, .ref u2, .ref u3, .ref u4, .ref u5, .int (nI M), .int (nI D), .ref u6, .int fl, .ref u7])) = G39 at hG
      have f39_u1 : G39 u1 = some (.inl (Z.2 1, 768, .inl cf)) := by rw [← eG39]; exact gup_keep hmo hc1 (by simp)
      have f39_u2 : G39 u2 = some (.inl (Z.2 2, 768, .inl mf)) := by rw [← eG39]; exact gup_keep hmo hc2 (by simp)
      have f39_u3 : G39 u3 = some (.inl (Z.2 2, 744, .inl ff)) := by rw [← eG39]; exact gup_keep hmo hc3 (by simp)
      have f39_u4 : G39 u4 = some (.inl (Z.2 2, 24, .inl gf)) := by rw [← eG39]; exact gup_keep hmo hc4 (by simp)
      have f39_u5 : G39 u5 = some (.inl (Z.2 1, 24, .inl sf)) := by rw [← eG39]; exact gup_keep hmo hc5 (by simp)
      have f39_u6 : G39 u6 = some (.inl (Z.2 2, 16, .inl tf)) := by rw [← eG39]; exact gup_keep hmo hc6 (by simp)
      have f39_u7 : G39 u7 = some (.inl (Z.2 1, 16, .inl bf)) := by rw [← eG39]; exact gup_keep hmo hc7 (by simp)
      have f39 : G39 mo = some (.inr (4, [.int 1, .int (nI C), .int (nI E), .ref u1, .ref u2, .ref u3, .ref u4, .ref u5, .int (nI M), .int (nI D), .ref u6, .int fl, .ref u7])) := by rw [← eG39]; exact gup_self _ _ _
      have hK : gKe (moI mo u1 u2 u3 u4 u5 u6 u7) G G39 := by rw [← eG39]; exact hK.up (by simp [moI])
      refine lv_aload_n hx hb d_mo_care_42 rfl (lv_at hl 0 rfl) ?_
      refine g_get S hE.1 hG.1 f39 rfl in_mo 0 (by decide) tw_491 (fun _ h9 => h9) rfl d_mo_care_43 ?_
      refine lv_if_le (tgt := 51) hx hb d_mo_care_46 (by decide) (fun c46 => absurd c46 (by decide)) (fun c46 => ?_)
      refine lv_iconst (v := 0) hx hb d_mo_care_49 (by decide) ?_
      refine W.widen (k := 0) (n := 0) (Nat.le_of_ble_eq_true rfl) (Nat.le_of_ble_eq_true rfl) ?_
      exact (W.zret hx hb hr rfl (fun t9 ht9 hW9 => ⟨⟨_, _, rfl, ⟨hK, Or.inl ⟨(by first | exact Or.inl (isNo h3 c6) | exact Or.inr (isNo h12 c15)), ⟨_, _, _, _, _, _, _, ⟨f39, f39_u1, f39_u2, f39_u3, f39_u4, f39_u5, f39_u6, f39_u7, n12, n45, n67⟩, hR, hT, hC, hE8, hfl⟩⟩⟩, by rw [ht9]; exact hG.1, hG.2.1⟩, hG.2.2.1.F ht9⟩) hG.2.2.1.2.2 d_mo_care_50)

set_option maxHeartbeats 600000 in
set_option maxRecDepth 100000 in
theorem c_mo_found (l : Launch) (Z : gZ) (G : gh) (sz : Nat) (mo : Nat) {u1 u2 u3 u4 u5 u6 u7 : Nat} {th : Int32} {C E M D : Nat} {fl tp : Int32} {pt : Nat → Option Nat} {pd : Nat → Pat} (hQ : moQ Z G mo u1 u2 u3 u4 u5 u6 u7 th C E M D fl tp pt pd) (n f0 : Int32) : Met l y_mo_found (wd_mo_found :: Gall) ({ frames := 1, cells := 0, slots := 0, locals := 21 }) (va_Pc [.ref mo, .int n, .int f0] (gPw Z G sz)) (va_Qi (fun (r : Int32) (G9 : gh) => gKe (moI mo u1 u2 u3 u4 u5 u6 u7) G G9 ∧ ((((∀ j, ¬ okP pt pd n j) ∨ ¬ ∃ k, k < 31 ∧ f0 = nI k) ∧ moQ Z G9 mo u1 u2 u3 u4 u5 u6 u7 1 C E M D fl tp pt pd) ∨ (∃ j f, okP pt pd n j ∧ f < 31 ∧ f0 = nI f ∧ moQ Z G9 mo u1 u2 u3 u4 u5 u6 u7 0 C E M D fl tp pt (va_up pd j (qfa (pd j) (pfa (pd j) ||| ((1 : Int32) <<< (nI f &&& 31))))) ∧ r = if pfa (pd j) &&& ((1 : Int32) <<< (nI f &&& 31)) = 0 then 1 else 0))) (gW Z G sz) (gA G sz)) 0 0 (gA G sz) := by
  refine Met.ofW (cc := b_mo_found) (maxL := 4) (ret := (some .boolean)) (by decide) rfl ?_
  intro p e s m args below meth c s₁ B hml hv
  obtain ⟨rfl, hsz, hG, hE⟩ := hv
  subst hsz
  have hx := B.exec
  have hb := B.bytes
  have hr := B.returns
  have hlocks := B.notSynchronized
  have S : CallFix p m c b_mo_found 4 s _ Gall "PackSeedsModel" := ⟨hx, hb, hml, findClass_of_methodNamed B.named, fun w hw => atoms_spec (ws := wd_mo_found :: Gall) B.pre w (List.mem_cons_of_mem _ hw)⟩
  have hG : gS (gA G s.heap.size) s.heap Z.1 cls G s.heap [] := gS.start hG
  have hl := lv_entry ([.ref mo, .int n, .int f0]) (n := 4) (Nat.le_of_ble_eq_true rfl)
  rw [lg_entry_eq]
  generalize (lg_sl ([.ref mo, .int n, .int f0]) ++ List.replicate (4 - (lg_sl ([.ref mo, .int n, .int f0])).length) Slot.unset).toArray = ls at hl ⊢
  have hl : lv_has ls 4 [(0, .ref mo), (1, .int n), (2, .int f0)] := hl
  have hK : gKe (moI mo u1 u2 u3 u4 u5 u6 u7) G G := gKe.rf
  obtain ⟨cf, mf, ff, gf, sf, tf, bf, hP, hR, hT, hC, hE8, hfl⟩ := hQ
  have hP0 := hP
  obtain ⟨hmo, hc1, hc2, hc3, hc4, hc5, hc6, hc7, n12, n45, n67⟩ := hP
  have hM24 := hR.1
  have hD1 := hT.1
  have hD16 := hT.2.1
  refine lv_aload_n hx hb d_mo_found_0 rfl (lv_at hl 0 rfl) ?_
  refine lv_aload_n hx hb d_mo_found_1 rfl (lv_at hl 0 rfl) ?_
  refine lv_iload_n hx hb d_mo_found_2 rfl (lv_at hl 1 rfl) ?_
  refine g_reti (g_runV (As := [.int n]) (rest := [.ref mo]) S lk_mo_48 k_mo_is (c_mo_is l Z G mo hP0 hR n) ⟨rfl, rfl⟩ ⟨Nat.le_of_ble_eq_true rfl, Nat.le_of_ble_eq_true rfl⟩ (gPreV hG.1 hE hmo rfl) rfl hl.1 rfl (Nat.le_of_ble_eq_true rfl) d_mo_found_3 ⟨Nat.le_of_ble_eq_true rfl, Nat.le_of_ble_eq_true rfl⟩) (fun r3 h3 => ?_)
  refine lv_if_eq (tgt := 23) hx hb d_mo_found_6 (by decide) (fun c6 => ?_) (fun c6 => ?_)
  · refine lv_iconst (v := 1) hx hb d_mo_found_23 (by decide) ?_
    refine g_put S hE.1 hG hmo rfl in_mo ty_mo tyok_mo nm_mo 0 (by decide) tw_491 (fun _ h9 => h9) rfl (ty := .int) (by decide +kernel) rfl rfl (Nat.le_of_ble_eq_true rfl) d_mo_found_24 (fun H locs hG => ?_)
    have hG : gS (gA G s.heap.size) s.heap Z.1 cls (gup G mo (.inr (4, [.int 1, .int (nI C), .int (nI E), .ref u1, .ref u2, .ref u3, .ref u4, .ref u5, .int (nI M), .int (nI D), .ref u6, .int fl, .ref u7]))) H locs := hG
    generalize eG24 : gup G mo (.inr (4, [.int 1, .int (nI C), .int (nI E), .ref u1, .ref u2, .ref u3, .ref u4, .ref u5, .int (nI M), .int (nI D), .ref u6, .int fl, .ref u7])) = G24 at hG
    have f24_u1 : G24 u1 = some (.inl (Z.2 1, 768, .inl cf)) := by rw [← eG24]; exact gup_keep hmo hc1 (by simp)
    have f24_u2 : G24 u2 = some (.inl (Z.2 2, 768, .inl mf)) := by rw [← eG24]; exact gup_keep hmo hc2 (by simp)
    have f24_u3 : G24 u3 = some (.inl (Z.2 2, 744, .inl ff)) := by rw [← eG24]; exact gup_keep hmo hc3 (by simp)
    have f24_u4 : G24 u4 = some (.inl (Z.2 2, 24, .inl gf)) := by rw [← eG24]; exact gup_keep hmo hc4 (by simp)
    have f24_u5 : G24 u5 = some (.inl (Z.2 1, 24, .inl sf)) := by rw [← eG24]; exact gup_keep hmo hc5 (by simp)
    have f24_u6 : G24 u6 = some (.inl (Z.2 2, 16, .inl tf)) := by rw [← eG24]; exact gup_keep hmo hc6 (by simp)
    have f24_u7 : G24 u7 = some (.inl (Z.2 1, 16, .inl bf)) := by rw [← eG24]; exact gup_keep hmo hc7 (by simp)
    have f24 : G24 mo = some (.inr (4, [.int 1, .int (nI C), .int (nI E), .ref u1, .ref u2, .ref u3, .ref u4, .ref u5, .int (nI M), .int (nI D), .ref u6, .int fl, .ref u7])) := by rw [← eG24]; exact gup_self _ _ _
    have hK : gKe (moI mo u1 u2 u3 u4 u5 u6 u7) G G24 := by rw [← eG24]; exact hK.up (by simp [moI])
    refine lv_aload_n hx hb d_mo_found_27 rfl (lv_at hl 0 rfl) ?_
    refine g_get S hE.1 hG.1 f24 rfl in_mo 0 (by decide) tw_491 (fun _ h9 => h9) rfl d_mo_found_28 ?_
    refine lv_if_le (tgt := 36) hx hb d_mo_found_31 (by decide) (fun c31 => absurd c31 (by decide)) (fun c31 => ?_)
    refine lv_iconst (v := 0) hx hb d_mo_found_34 (by decide) ?_
    refine W.widen (k := 0) (n := 0) (Nat.le_of_ble_eq_true rfl) (Nat.le_of_ble_eq_true rfl) ?_
    exact (W.zret hx hb hr rfl (fun t9 ht9 hW9 => ⟨⟨_, _, rfl, ⟨hK, Or.inl ⟨(by first | exact Or.inl (isNo h3 c6) | exact Or.inr (by rintro ⟨k, hk, rfl⟩; first | exact absurd c10 (nI_pos (by omega)) | exact absurd c16 (nI_ge hk (by omega)))), ⟨_, _, _, _, _, _, _, ⟨f24, f24_u1, f24_u2, f24_u3, f24_u4, f24_u5, f24_u6, f24_u7, n12, n45, n67⟩, hR, hT, hC, hE8, hfl⟩⟩⟩, by rw [ht9]; exact hG.1, hG.2.1⟩, hG.2.2.1.F ht9⟩) hG.2.2.1.2.2 d_mo_found_35)
  · refine lv_iload_n hx hb d_mo_found_9 rfl (lv_at hl 2 rfl) ?_
    refine lv_if_lt (tgt := 23) hx hb d_mo_found_10 (by decide) (fun c10 => ?_) (fun c10 => ?_)
    · refine lv_iconst (v := 1) hx hb d_mo_found_23 (by decide) ?_
      refine g_put S hE.1 hG hmo rfl in_mo ty_mo tyok_mo nm_mo 0 (by decide) tw_491 (fun _ h9 => h9) rfl (ty := .int) (by decide +kernel) rfl rfl (Nat.le_of_ble_eq_true rfl) d_mo_found_24 (fun H locs hG => ?_)
      have hG : gS (gA G s.heap.size) s.heap Z.1 cls (gup G mo (.inr (4, [.int 1, .int (nI C), .int (nI E), .ref u1, .ref u2, .ref u3, .ref u4, .ref u5, .int (nI M), .int (nI D), .ref u6, .int fl, .ref u7]))) H locs := hG
      generalize eG24 : gup G mo (.inr (4, [.int 1, .int (nI C), .int (nI E), .ref u1, .ref u2, .ref u3, .ref u4, .ref u5, .int (nI M), .int (nI D), .ref u6, .int fl, .ref u7])) = G24 at hG
      have f24_u1 : G24 u1 = some (.inl (Z.2 1, 768, .inl cf)) := by rw [← eG24]; exact gup_keep hmo hc1 (by simp)
      have f24_u2 : G24 u2 = some (.inl (Z.2 2, 768, .inl mf)) := by rw [← eG24]; exact gup_keep hmo hc2 (by simp)
      have f24_u3 : G24 u3 = some (.inl (Z.2 2, 744, .inl ff)) := by rw [← eG24]; exact gup_keep hmo hc3 (by simp)
      have f24_u4 : G24 u4 = some (.inl (Z.2 2, 24, .inl gf)) := by rw [← eG24]; exact gup_keep hmo hc4 (by simp)
      have f24_u5 : G24 u5 = some (.inl (Z.2 1, 24, .inl sf)) := by rw [← eG24]; exact gup_keep hmo hc5 (by simp)
      have f24_u6 : G24 u6 = some (.inl (Z.2 2, 16, .inl tf)) := by rw [← eG24]; exact gup_keep hmo hc6 (by simp)
      have f24_u7 : G24 u7 = some (.inl (Z.2 1, 16, .inl bf)) := by rw [← eG24]; exact gup_keep hmo hc7 (by simp)
      have f24 : G24 mo = some (.inr (4, [.int 1, .int (nI C), .int (nI E), .ref u1, .ref u2, .ref u3, .ref u4, .ref u5, .int (nI M), .int (nI D), .ref u6, .int fl, .ref u7])) := by rw [← eG24]; exact gup_self _ _ _
      have hK : gKe (moI mo u1 u2 u3 u4 u5 u6 u7) G G24 := by rw [← eG24]; exact hK.up (by simp [moI])
      refine lv_aload_n hx hb d_mo_found_27 rfl (lv_at hl 0 rfl) ?_
      refine g_get S hE.1 hG.1 f24 rfl in_mo 0 (by decide) tw_491 (fun _ h9 => h9) rfl d_mo_found_28 ?_
      refine lv_if_le (tgt := 36) hx hb d_mo_found_31 (by decide) (fun c31 => absurd c31 (by decide)) (fun c31 => ?_)
      refine lv_iconst (v := 0) hx hb d_mo_found_34 (by decide) ?_
      refine W.widen (k := 0) (n := 0) (Nat.le_of_ble_eq_true rfl) (Nat.le_of_ble_eq_true rfl) ?_
      exact (W.zret hx hb hr rfl (fun t9 ht9 hW9 => ⟨⟨_, _, rfl, ⟨hK, Or.inl ⟨(by first | exact Or.inl (isNo h3 c6) | exact Or.inr (by rintro ⟨k, hk, rfl⟩; first | exact absurd c10 (nI_pos (by omega)) | exact absurd c16 (nI_ge hk (by omega)))), ⟨_, _, _, _, _, _, _, ⟨f24, f24_u1, f24_u2, f24_u3, f24_u4, f24_u5, f24_u6, f24_u7, n12, n45, n67⟩, hR, hT, hC, hE8, hfl⟩⟩⟩, by rw [ht9]; exact hG.1, hG.2.1⟩, hG.2.2.1.F ht9⟩) hG.2.2.1.2.2 d_mo_found_35)
    · refine lv_iload_n hx hb d_mo_found_13 rfl (lv_at hl 2 rfl) ?_
      refine lv_bipush (v := nI 31) hx hb d_mo_found_14 (by decide) ?_
      refine lv_icmp_ge (tgt := 23) hx hb d_mo_found_16 (by decide) (fun c16 => ?_) (fun c16 => ?_)
      · refine lv_iconst (v := 1) hx hb d_mo_found_23 (by decide) ?_
        refine g_put S hE.1 hG hmo rfl in_mo ty_mo tyok_mo nm_mo 0 (by decide) tw_491 (fun _ h9 => h9) rfl (ty := .int) (by decide +kernel) rfl rfl (Nat.le_of_ble_eq_true rfl) d_mo_found_24 (fun H locs hG => ?_)
        have hG : gS (gA G s.heap.size) s.heap Z.1 cls (gup G mo (.inr (4, [.int 1, .int (nI C), .int (nI E), .ref u1, .ref u2, .ref u3, .ref u4, .ref u5, .int (nI M), .int (nI D), .ref u6, .int fl, .ref u7]))) H locs := hG
        generalize eG24 : gup G mo (.inr (4, [.int 1, .int (nI C), .int (nI E), .ref u1, .ref u2, .ref u3, .ref u4, .ref u5, .int (nI M), .int (nI D), .ref u6, .int fl, .ref u7])) = G24 at hG
        have f24_u1 : G24 u1 = some (.inl (Z.2 1, 768, .inl cf)) := by rw [← eG24]; exact gup_keep hmo hc1 (by simp)
        have f24_u2 : G24 u2 = some (.inl (Z.2 2, 768, .inl mf)) := by rw [← eG24]; exact gup_keep hmo hc2 (by simp)
        have f24_u3 : G24 u3 = some (.inl (Z.2 2, 744, .inl ff)) := by rw [← eG24]; exact gup_keep hmo hc3 (by simp)
        have f24_u4 : G24 u4 = some (.inl (Z.2 2, 24, .inl gf)) := by rw [← eG24]; exact gup_keep hmo hc4 (by simp)
        have f24_u5 : G24 u5 = some (.inl (Z.2 1, 24, .inl sf)) := by rw [← eG24]; exact gup_keep hmo hc5 (by simp)
        have f24_u6 : G24 u6 = some (.inl (Z.2 2, 16, .inl tf)) := by rw [← eG24]; exact gup_keep hmo hc6 (by simp)
        have f24_u7 : G24 u7 = some (.inl (Z.2 1, 16, .inl bf)) := by rw [← eG24]; exact gup_keep hmo hc7 (by simp)
        have f24 : G24 mo = some (.inr (4, [.int 1, .int (nI C), .int (nI E), .ref u1, .ref u2, .ref u3, .ref u4, .ref u5, .int (nI M), .int (nI D), .ref u6, .int fl, .ref u7])) := by rw [← eG24]; exact gup_self _ _ _
        have hK : gKe (moI mo u1 u2 u3 u4 u5 u6 u7) G G24 := by rw [← eG24]; exact hK.up (by simp [moI])
        refine lv_aload_n hx hb d_mo_found_27 rfl (lv_at hl 0 rfl) ?_
        refine g_get S hE.1 hG.1 f24 rfl in_mo 0 (by decide) tw_491 (fun _ h9 => h9) rfl d_mo_found_28 ?_
        refine lv_if_le (tgt := 36) hx hb d_mo_found_31 (by decide) (fun c31 => absurd c31 (by decide)) (fun c31 => ?_)
        refine lv_iconst (v := 0) hx hb d_mo_found_34 (by decide) ?_
        refine W.widen (k := 0) (n := 0) (Nat.le_of_ble_eq_true rfl) (Nat.le_of_ble_eq_true rfl) ?_
        exact (W.zret hx hb hr rfl (fun t9 ht9 hW9 => ⟨⟨_, _, rfl, ⟨hK, Or.inl ⟨(by first | exact Or.inl (isNo h3 c6) | exact Or.inr (by rintro ⟨k, hk, rfl⟩; first | exact absurd c10 (nI_pos (by omega)) | exact absurd c16 (nI_ge hk (by omega)))), ⟨_, _, _, _, _, _, _, ⟨f24, f24_u1, f24_u2, f24_u3, f24_u4, f24_u5, f24_u6, f24_u7, n12, n45, n67⟩, hR, hT, hC, hE8, hfl⟩⟩⟩, by rw [ht9]; exact hG.1, hG.2.1⟩, hG.2.2.1.F ht9⟩) hG.2.2.1.2.2 d_mo_found_35)
      · refine lv_iconst (v := 0) hx hb d_mo_found_19 (by decide) ?_
        refine lv_goto (tgt := 24) hx hb d_mo_found_20 (by decide) ?_
        refine g_put S hE.1 hG hmo rfl in_mo ty_mo tyok_mo nm_mo 0 (by decide) tw_491 (fun _ h9 => h9) rfl (ty := .int) (by decide +kernel) rfl rfl (Nat.le_of_ble_eq_true rfl) d_mo_found_24 (fun H locs hG => ?_)
        have hG : gS (gA G s.heap.size) s.heap Z.1 cls (gup G mo (.inr (4, [.int 0, .int (nI C), .int (nI E), .ref u1, .ref u2, .ref u3, .ref u4, .ref u5, .int (nI M), .int (nI D), .ref u6, .int fl, .ref u7]))) H locs := hG
        generalize eG24 : gup G mo (.inr (4, [.int 0, .int (nI C), .int (nI E), .ref u1, .ref u2, .ref u3, .ref u4, .ref u5, .int (nI M), .int (nI D), .ref u6, .int fl, .ref u7])) = G24 at hG
        have f24_u1 : G24 u1 = some (.inl (Z.2 1, 768, .inl cf)) := by rw [← eG24]; exact gup_keep hmo hc1 (by simp)
        have f24_u2 : G24 u2 = some (.inl (Z.2 2, 768, .inl mf)) := by rw [← eG24]; exact gup_keep hmo hc2 (by simp)
        have f24_u3 : G24 u3 = some (.inl (Z.2 2, 744, .inl ff)) := by rw [← eG24]; exact gup_keep hmo hc3 (by simp)
        have f24_u4 : G24 u4 = some (.inl (Z.2 2, 24, .inl gf)) := by rw [← eG24]; exact gup_keep hmo hc4 (by simp)
        have f24_u5 : G24 u5 = some (.inl (Z.2 1, 24, .inl sf)) := by rw [← eG24]; exact gup_keep hmo hc5 (by simp)
        have f24_u6 : G24 u6 = some (.inl (Z.2 2, 16, .inl tf)) := by rw [← eG24]; exact gup_keep hmo hc6 (by simp)
        have f24_u7 : G24 u7 = some (.inl (Z.2 1, 16, .inl bf)) := by rw [← eG24]; exact gup_keep hmo hc7 (by simp)
        have f24 : G24 mo = some (.inr (4, [.int 0, .int (nI C), .int (nI E), .ref u1, .ref u2, .ref u3, .ref u4, .ref u5, .int (nI M), .int (nI D), .ref u6, .int fl, .ref u7])) := by rw [← eG24]; exact gup_self _ _ _
        have hK : gKe (moI mo u1 u2 u3 u4 u5 u6 u7) G G24 := by rw [← eG24]; exact hK.up (by simp [moI])
        refine lv_aload_n hx hb d_mo_found_27 rfl (lv_at hl 0 rfl) ?_
        refine g_get S hE.1 hG.1 f24 rfl in_mo 0 (by decide) tw_491 (fun _ h9 => h9) rfl d_mo_found_28 ?_
        refine lv_if_le (tgt := 36) hx hb d_mo_found_31 (by decide) (fun c31 => ?_) (fun c31 => absurd c31 (by decide))
        obtain ⟨j, hj⟩ := isOk h3 c6
        obtain ⟨ej, hjM, hgj⟩ := hR.ok.mp hj
        have hj0 := hj
        subst ej
        obtain ⟨f, hf, ef⟩ := rngD (show 31 < 2 ^ 31 by omega) c10 (Int32.not_le.mp c16)
        subst ef
        refine lv_aload_n hx hb d_mo_found_36 rfl (lv_at hl 0 rfl) ?_
        refine g_get S hE.1 hG.1 f24 rfl in_mo 5 (by decide) tw_496 (fun _ h9 => h9) rfl d_mo_found_37 ?_
        refine lv_bipush (v := nI 31) hx hb d_mo_found_40 (by decide) ?_
        refine lv_iload_n hx hb d_mo_found_42 rfl (lv_at hl 1 rfl) ?_
        refine lv_imul hx hb d_mo_found_43 ?_
        refine g_topi (y := nI (31 * j)) (pk_mul 31 j) ?_
        refine lv_iload_n hx hb d_mo_found_44 rfl (lv_at hl 2 rfl) ?_
        refine lv_iadd hx hb d_mo_found_45 ?_
        refine g_topi (y := nI ((31 * j) + f)) (nI_add (31 * j) f) ?_
        refine g_zald S hE.1 hG.1 f24_u3 2 rfl (vp_in_nI (by omega) (by omega)) d_mo_found_46 ?_
        refine g_topi (congrArg ff (nI_clamp (show ((31 * j) + f) < 2 ^ 31 by omega))) ?_
        refine lv_if_ne (tgt := 54) hx hb d_mo_found_47 (by decide) (fun c47 => ?_) (fun c47 => ?_)
        · refine lv_iconst (v := 0) hx hb d_mo_found_54 (by decide) ?_
          refine lv_istore_n (lv' := [(3, .int 0), (0, .ref mo), (1, .int (nI j)), (2, .int (nI f))]) hx hb d_mo_found_55 rfl hl (by decide) rfl (fun ls hl => ?_)
          refine lv_aload_n hx hb d_mo_found_56 rfl (lv_at hl 1 rfl) ?_
          refine g_get S hE.1 hG.1 f24 rfl in_mo 5 (by decide) tw_496 (fun _ h9 => h9) rfl d_mo_found_57 ?_
          refine lv_bipush (v := nI 31) hx hb d_mo_found_60 (by decide) ?_
          refine lv_iload_n hx hb d_mo_found_62 rfl (lv_at hl 2 rfl) ?_
          refine lv_imul hx hb d_mo_found_63 ?_
          refine g_topi (y := nI (31 * j)) (pk_mul 31 j) ?_
          refine lv_iload_n hx hb d_mo_found_64 rfl (lv_at hl 3 rfl) ?_
          refine lv_iadd hx hb d_mo_found_65 ?_
          refine g_topi (y := nI ((31 * j) + f)) (nI_add (31 * j) f) ?_
          refine lv_iconst (v := 1) hx hb d_mo_found_66 (by decide) ?_
          refine g_zast S hE.1 hG f24_u3 2 rfl (vp_in_nI (by omega) (by omega)) d_mo_found_67 (fun H locs hG => ?_)
          rw [nI_clamp (show ((31 * j) + f) < 2 ^ 31 by omega)] at hG
          have hG : gS (gA G s.heap.size) s.heap Z.1 cls (gup G24 u3 (.inl (Z.2 2, 744, .inl (upd ff ((31 * j) + f) 1)))) H locs := hG
          generalize eG67 : gup G24 u3 (.inl (Z.2 2, 744, .inl (upd ff ((31 * j) + f) 1))) = G67 at hG
          have f67_u1 : G67 u1 = some (.inl (Z.2 1, 768, .inl cf)) := by rw [← eG67]; exact gup_keep f24_u3 f24_u1 (by simp)
          have f67_u2 : G67 u2 = some (.inl (Z.2 2, 768, .inl mf)) := by rw [← eG67]; exact gup_keep f24_u3 f24_u2 (by simp)
          have f67_u4 : G67 u4 = some (.inl (Z.2 2, 24, .inl gf)) := by rw [← eG67]; exact gup_keep f24_u3 f24_u4 (by simp)
          have f67_u5 : G67 u5 = some (.inl (Z.2 1, 24, .inl sf)) := by rw [← eG67]; exact gup_keep f24_u3 f24_u5 (by simp)
          have f67_u6 : G67 u6 = some (.inl (Z.2 2, 16, .inl tf)) := by rw [← eG67]; exact gup_keep f24_u3 f24_u6 (by simp)
          have f67_u7 : G67 u7 = some (.inl (Z.2 1, 16, .inl bf)) := by rw [← eG67]; exact gup_keep f24_u3 f24_u7 (by simp)
          have f67_mo : G67 mo = some (.inr (4, [.int 0, .int (nI C), .int (nI E), .ref u1, .ref u2, .ref u3, .ref u4, .ref u5, .int (nI M), .int (nI D), .ref u6, .int fl, .ref u7])) := by rw [← eG67]; exact gup_keep f24_u3 f24 (by simp)
          have f67 : G67 u3 = some (.inl (Z.2 2, 744, .inl (upd ff ((31 * j) + f) 1))) := by rw [← eG67]; exact gup_self _ _ _
          have hK : gKe (moI mo u1 u2 u3 u4 u5 u6 u7) G G67 := by rw [← eG67]; exact hK.up (by simp [moI])
          refine lv_iload_n hx hb d_mo_found_68 rfl (lv_at hl 0 rfl) ?_
          refine W.widen (k := 0) (n := 0) (Nat.le_of_ble_eq_true rfl) (Nat.le_of_ble_eq_true rfl) ?_
          exact (W.zret hx hb hr rfl (fun t9 ht9 hW9 => ⟨⟨_, _, rfl, ⟨hK, Or.inr ⟨j, f, hj0, hf, rfl, ⟨_, _, _, _, _, _, _, ⟨f67_mo, f67_u1, f67_u2, f67, f67_u4, f67_u5, f67_u6, f67_u7, n12, n45, n67⟩, hR.fa hjM hgj hf, hT, hC, hE8, hfl⟩, (by first | rw [if_pos ((hR.faz hjM hgj hf).mp c47)] | rw [if_neg (fun z => c47 ((hR.faz hjM hgj hf).mpr z))])⟩⟩, by rw [ht9]; exact hG.1, hG.2.1⟩, hG.2.2.1.F ht9⟩) hG.2.2.1.2.2 d_mo_found_69)
        · refine lv_iconst (v := 1) hx hb d_mo_found_50 (by decide) ?_
          refine lv_goto (tgt := 55) hx hb d_mo_found_51 (by decide) ?_
          refine lv_istore_n (lv' := [(3, .int 1), (0, .ref mo), (1, .int (nI j)), (2, .int (nI f))]) hx hb d_mo_found_55 rfl hl (by decide) rfl (fun ls hl => ?_)
          refine lv_aload_n hx hb d_mo_found_56 rfl (lv_at hl 1 rfl) ?_
          refine g_get S hE.1 hG.1 f24 rfl in_mo 5 (by decide) tw_496 (fun _ h9 => h9) rfl d_mo_found_57 ?_
          refine lv_bipush (v := nI 31) hx hb d_mo_found_60 (by decide) ?_
          refine lv_iload_n hx hb d_mo_found_62 rfl (lv_at hl 2 rfl) ?_
          refine lv_imul hx hb d_mo_found_63 ?_
          refine g_topi (y := nI (31 * j)) (pk_mul 31 j) ?_
          refine lv_iload_n hx hb d_mo_found_64 rfl (lv_at hl 3 rfl) ?_
          refine lv_iadd hx hb d_mo_found_65 ?_
          refine g_topi (y := nI ((31 * j) + f)) (nI_add (31 * j) f) ?_
          refine lv_iconst (v := 1) hx hb d_mo_found_66 (by decide) ?_
          refine g_zast S hE.1 hG f24_u3 2 rfl (vp_in_nI (by omega) (by omega)) d_mo_found_67 (fun H locs hG => ?_)
          rw [nI_clamp (show ((31 * j) + f) < 2 ^ 31 by omega)] at hG
          have hG : gS (gA G s.heap.size) s.heap Z.1 cls (gup G24 u3 (.inl (Z.2 2, 744, .inl (upd ff ((31 * j) + f) 1)))) H locs := hG
          generalize eG67 : gup G24 u3 (.inl (Z.2 2, 744, .inl (upd ff ((31 * j) + f) 1))) = G67 at hG
          have f67_u1 : G67 u1 = some (.inl (Z.2 1, 768, .inl cf)) := by rw [← eG67]; exact gup_keep f24_u3 f24_u1 (by simp)
          have f67_u2 : G67 u2 = some (.inl (Z.2 2, 768, .inl mf)) := by rw [← eG67]; exact gup_keep f24_u3 f24_u2 (by simp)
          have f67_u4 : G67 u4 = some (.inl (Z.2 2, 24, .inl gf)) := by rw [← eG67]; exact gup_keep f24_u3 f24_u4 (by simp)
          have f67_u5 : G67 u5 = some (.inl (Z.2 1, 24, .inl sf)) := by rw [← eG67]; exact gup_keep f24_u3 f24_u5 (by simp)
          have f67_u6 : G67 u6 = some (.inl (Z.2 2, 16, .inl tf)) := by rw [← eG67]; exact gup_keep f24_u3 f24_u6 (by simp)
          have f67_u7 : G67 u7 = some (.inl (Z.2 1, 16, .inl bf)) := by rw [← eG67]; exact gup_keep f24_u3 f24_u7 (by simp)
          have f67_mo : G67 mo = some (.inr (4, [.int 0, .int (nI C), .int (nI E), .ref u1, .ref u2, .ref u3, .ref u4, .ref u5, .int (nI M), .int (nI D), .ref u6, .int fl, .ref u7])) := by rw [← eG67]; exact gup_keep f24_u3 f24 (by simp)
          have f67 : G67 u3 = some (.inl (Z.2 2, 744, .inl (upd ff ((31 * j) + f) 1))) := by rw [← eG67]; exact gup_self _ _ _
          have hK : gKe (moI mo u1 u2 u3 u4 u5 u6 u7) G G67 := by rw [← eG67]; exact hK.up (by simp [moI])
          refine lv_iload_n hx hb d_mo_found_68 rfl (lv_at hl 0 rfl) ?_
          refine W.widen (k := 0) (n := 0) (Nat.le_of_ble_eq_true rfl) (Nat.le_of_ble_eq_true rfl) ?_
          exact (W.zret hx hb hr rfl (fun t9 ht9 hW9 => ⟨⟨_, _, rfl, ⟨hK, Or.inr ⟨j, f, hj0, hf, rfl, ⟨_, _, _, _, _, _, _, ⟨f67_mo, f67_u1, f67_u2, f67, f67_u4, f67_u5, f67_u6, f67_u7, n12, n45, n67⟩, hR.fa hjM hgj hf, hT, hC, hE8, hfl⟩, (by first | rw [if_pos ((hR.faz hjM hgj hf).mp c47)] | rw [if_neg (fun z => c47 ((hR.faz hjM hgj hf).mpr z))])⟩⟩, by rw [ht9]; exact hG.1, hG.2.1⟩, hG.2.2.1.F ht9⟩) hG.2.2.1.2.2 d_mo_found_69)

set_option maxHeartbeats 600000 in
set_option maxRecDepth 100000 in
theorem c_mo_mask (l : Launch) (Z : gZ) (G : gh) (sz : Nat) (mo : Nat) {u1 u2 u3 u4 u5 u6 u7 : Nat} {th : Int32} {C E M D : Nat} {fl tp : Int32} {pt : Nat → Option Nat} {pd : Nat → Pat} (hQ : moQ Z G mo u1 u2 u3 u4 u5 u6 u7 th C E M D fl tp pt pd) (n c0 e0 : Int32) : Met l y_mo_mask (wd_mo_mask :: Gall) ({ frames := 1, cells := 0, slots := 0, locals := 23 }) (va_Pc [.ref mo, .int n, .int c0, .int e0] (gPw Z G sz)) (va_Qi (fun (r : Int32) (G9 : gh) => gKe (moI mo u1 u2 u3 u4 u5 u6 u7) G G9 ∧ ((((∀ j, ¬ okP pt pd n j) ∨ (¬ ∃ k j, k < C ∧ j < E ∧ c0 = nI k ∧ e0 = nI j)) ∧ moQ Z G9 mo u1 u2 u3 u4 u5 u6 u7 1 C E M D fl tp pt pd) ∨ (∃ j k q, okP pt pd n j ∧ k < C ∧ q < E ∧ c0 = nI k ∧ e0 = nI q ∧ moQ Z G9 mo u1 u2 u3 u4 u5 u6 u7 0 C E M D fl tp pt (va_up pd j (qmk (pd j) (pmk (pd j) ||| plC (nI k) (nI q)))) ∧ r = if pmk (pd j) &&& plC (nI k) (nI q) = 0 then 1 else 0))) (gW Z G sz) (gA G sz)) 0 0 (gA G sz) := by
  refine Met.ofW (cc := b_mo_mask) (maxL := 6) (ret := (some .boolean)) (by decide) rfl ?_
  intro p e s m args below meth c s₁ B hml hv
  obtain ⟨rfl, hsz, hG, hE⟩ := hv
  subst hsz
  have hx := B.exec
  have hb := B.bytes
  have hr := B.returns
  have hlocks := B.notSynchronized
  have S : CallFix p m c b_mo_mask 6 s _ Gall "PackSeedsModel" := ⟨hx, hb, hml, findClass_of_methodNamed B.named, fun w hw => atoms_spec (ws := wd_mo_mask :: Gall) B.pre w (List.mem_cons_of_mem _ hw)⟩
  have hG : gS (gA G s.heap.size) s.heap Z.1 cls G s.heap [] := gS.start hG
  have hl := lv_entry ([.ref mo, .int n, .int c0, .int e0]) (n := 6) (Nat.le_of_ble_eq_true rfl)
  rw [lg_entry_eq]
  generalize (lg_sl ([.ref mo, .int n, .int c0, .int e0]) ++ List.replicate (6 - (lg_sl ([.ref mo, .int n, .int c0, .int e0])).length) Slot.unset).toArray = ls at hl ⊢
  have hl : lv_has ls 6 [(0, .ref mo), (1, .int n), (2, .int c0), (3, .int e0)] := hl
  have hK : gKe (moI mo u1 u2 u3 u4 u5 u6 u7) G G := gKe.rf
  obtain ⟨cf, mf, ff, gf, sf, tf, bf, hP, hR, hT, hC, hE8, hfl⟩ := hQ
  have hP0 := hP
  obtain ⟨hmo, hc1, hc2, hc3, hc4, hc5, hc6, hc7, n12, n45, n67⟩ := hP
  have hM24 := hR.1
  have hD1 := hT.1
  have hD16 := hT.2.1
  refine lv_aload_n hx hb d_mo_mask_0 rfl (lv_at hl 0 rfl) ?_
  refine lv_aload_n hx hb d_mo_mask_1 rfl (lv_at hl 0 rfl) ?_
  refine lv_iload_n hx hb d_mo_mask_2 rfl (lv_at hl 1 rfl) ?_
  refine g_reti (g_runV (As := [.int n]) (rest := [.ref mo]) S lk_mo_48 k_mo_is (c_mo_is l Z G mo hP0 hR n) ⟨rfl, rfl⟩ ⟨Nat.le_of_ble_eq_true rfl, Nat.le_of_ble_eq_true rfl⟩ (gPreV hG.1 hE hmo rfl) rfl hl.1 rfl (Nat.le_of_ble_eq_true rfl) d_mo_mask_3 ⟨Nat.le_of_ble_eq_true rfl, Nat.le_of_ble_eq_true rfl⟩) (fun r3 h3 => ?_)
  refine lv_if_eq (tgt := 22) hx hb d_mo_mask_6 (by decide) (fun c6 => ?_) (fun c6 => ?_)
  · refine lv_iconst (v := 1) hx hb d_mo_mask_22 (by decide) ?_
    refine g_put S hE.1 hG hmo rfl in_mo ty_mo tyok_mo nm_mo 0 (by decide) tw_491 (fun _ h9 => h9) rfl (ty := .int) (by decide +kernel) rfl rfl (Nat.le_of_ble_eq_true rfl) d_mo_mask_23 (fun H locs hG => ?_)
    have hG : gS (gA G s.heap.size) s.heap Z.1 cls (gup G mo (.inr (4, [.int 1, .int (nI C), .int (nI E), .ref u1, .ref u2, .ref u3, .ref u4, .ref u5, .int (nI M), .int (nI D), .ref u6, .int fl, .ref u7]))) H locs := hG
    generalize eG23 : gup G mo (.inr (4, [.int 1, .int (nI C), .int (nI E), .ref u1, .ref u2, .ref u3, .ref u4, .ref u5, .int (nI M), .int (nI D), .ref u6, .int fl, .ref u7])) = G23 at hG
    have f23_u1 : G23 u1 = some (.inl (Z.2 1, 768, .inl cf)) := by rw [← eG23]; exact gup_keep hmo hc1 (by simp)
    have f23_u2 : G23 u2 = some (.inl (Z.2 2, 768, .inl mf)) := by rw [← eG23]; exact gup_keep hmo hc2 (by simp)
    have f23_u3 : G23 u3 = some (.inl (Z.2 2, 744, .inl ff)) := by rw [← eG23]; exact gup_keep hmo hc3 (by simp)
    have f23_u4 : G23 u4 = some (.inl (Z.2 2, 24, .inl gf)) := by rw [← eG23]; exact gup_keep hmo hc4 (by simp)
    have f23_u5 : G23 u5 = some (.inl (Z.2 1, 24, .inl sf)) := by rw [← eG23]; exact gup_keep hmo hc5 (by simp)
    have f23_u6 : G23 u6 = some (.inl (Z.2 2, 16, .inl tf)) := by rw [← eG23]; exact gup_keep hmo hc6 (by simp)
    have f23_u7 : G23 u7 = some (.inl (Z.2 1, 16, .inl bf)) := by rw [← eG23]; exact gup_keep hmo hc7 (by simp)
    have f23 : G23 mo = some (.inr (4, [.int 1, .int (nI C), .int (nI E), .ref u1, .ref u2, .ref u3, .ref u4, .ref u5, .int (nI M), .int (nI D), .ref u6, .int fl, .ref u7])) := by rw [← eG23]; exact gup_self _ _ _
    have hK : gKe (moI mo u1 u2 u3 u4 u5 u6 u7) G G23 := by rw [← eG23]; exact hK.up (by simp [moI])
    refine lv_aload_n hx hb d_mo_mask_26 rfl (lv_at hl 0 rfl) ?_
    refine g_get S hE.1 hG.1 f23 rfl in_mo 0 (by decide) tw_491 (fun _ h9 => h9) rfl d_mo_mask_27 ?_
    refine lv_if_le (tgt := 35) hx hb d_mo_mask_30 (by decide) (fun c30 => absurd c30 (by decide)) (fun c30 => ?_)
    refine lv_iconst (v := 0) hx hb d_mo_mask_33 (by decide) ?_
    refine W.widen (k := 0) (n := 0) (Nat.le_of_ble_eq_true rfl) (Nat.le_of_ble_eq_true rfl) ?_
    exact (W.zret hx hb hr rfl (fun t9 ht9 hW9 => ⟨⟨_, _, rfl, ⟨hK, Or.inl ⟨(by first | exact Or.inl (isNo h3 c6) | exact Or.inr (isNo h12 c15)), ⟨_, _, _, _, _, _, _, ⟨f23, f23_u1, f23_u2, f23_u3, f23_u4, f23_u5, f23_u6, f23_u7, n12, n45, n67⟩, hR, hT, hC, hE8, hfl⟩⟩⟩, by rw [ht9]; exact hG.1, hG.2.1⟩, hG.2.2.1.F ht9⟩) hG.2.2.1.2.2 d_mo_mask_34)
  · refine lv_aload_n hx hb d_mo_mask_9 rfl (lv_at hl 0 rfl) ?_
    refine lv_iload_n hx hb d_mo_mask_10 rfl (lv_at hl 2 rfl) ?_
    refine lv_iload_n hx hb d_mo_mask_11 rfl (lv_at hl 3 rfl) ?_
    refine g_reti (g_runV (As := [.int c0, .int e0]) (rest := [.ref mo]) S lk_mo_52 k_mo_isCell (c_mo_isCell l Z G mo hP0 hC hE8 c0 e0) ⟨rfl, rfl⟩ ⟨Nat.le_of_ble_eq_true rfl, Nat.le_of_ble_eq_true rfl⟩ (gPreV hG.1 hE hmo rfl) rfl hl.1 rfl (Nat.le_of_ble_eq_true rfl) d_mo_mask_12 ⟨Nat.le_of_ble_eq_true rfl, Nat.le_of_ble_eq_true rfl⟩) (fun r12 h12 => ?_)
    refine lv_if_eq (tgt := 22) hx hb d_mo_mask_15 (by decide) (fun c15 => ?_) (fun c15 => ?_)
    · refine lv_iconst (v := 1) hx hb d_mo_mask_22 (by decide) ?_
      refine g_put S hE.1 hG hmo rfl in_mo ty_mo tyok_mo nm_mo 0 (by decide) tw_491 (fun _ h9 => h9) rfl (ty := .int) (by decide +kernel) rfl rfl (Nat.le_of_ble_eq_true rfl) d_mo_mask_23 (fun H locs hG => ?_)
      have hG : gS (gA G s.heap.size) s.heap Z.1 cls (gup G mo (.inr (4, [.int 1, .int (nI C), .int (nI E), .ref u1, .ref u2, .ref u3, .ref u4, .ref u5, .int (nI M), .int (nI D), .ref u6, .int fl, .ref u7]))) H locs := hG
      generalize eG23 : gup G mo (.inr (4, [.int 1, .int (nI C), .int (nI E), .ref u1, .ref u2, .ref u3, .ref u4, .ref u5, .int (nI M), .int (nI D), .ref u6, .int fl, .ref u7])) = G23 at hG
      have f23_u1 : G23 u1 = some (.inl (Z.2 1, 768, .inl cf)) := by rw [← eG23]; exact gup_keep hmo hc1 (by simp)
      have f23_u2 : G23 u2 = some (.inl (Z.2 2, 768, .inl mf)) := by rw [← eG23]; exact gup_keep hmo hc2 (by simp)
      have f23_u3 : G23 u3 = some (.inl (Z.2 2, 744, .inl ff)) := by rw [← eG23]; exact gup_keep hmo hc3 (by simp)
      have f23_u4 : G23 u4 = some (.inl (Z.2 2, 24, .inl gf)) := by rw [← eG23]; exact gup_keep hmo hc4 (by simp)
      have f23_u5 : G23 u5 = some (.inl (Z.2 1, 24, .inl sf)) := by rw [← eG23]; exact gup_keep hmo hc5 (by simp)
      have f23_u6 : G23 u6 = some (.inl (Z.2 2, 16, .inl tf)) := by rw [← eG23]; exact gup_keep hmo hc6 (by simp)
      have f23_u7 : G23 u7 = some (.inl (Z.2 1, 16, .inl bf)) := by rw [← eG23]; exact gup_keep hmo hc7 (by simp)
      have f23 : G23 mo = some (.inr (4, [.int 1, .int (nI C), .int (nI E), .ref u1, .ref u2, .ref u3, .ref u4, .ref u5, .int (nI M), .int (nI D), .ref u6, .int fl, .ref u7])) := by rw [← eG23]; exact gup_self _ _ _
      have hK : gKe (moI mo u1 u2 u3 u4 u5 u6 u7) G G23 := by rw [← eG23]; exact hK.up (by simp [moI])
      refine lv_aload_n hx hb d_mo_mask_26 rfl (lv_at hl 0 rfl) ?_
      refine g_get S hE.1 hG.1 f23 rfl in_mo 0 (by decide) tw_491 (fun _ h9 => h9) rfl d_mo_mask_27 ?_
      refine lv_if_le (tgt := 35) hx hb d_mo_mask_30 (by decide) (fun c30 => absurd c30 (by decide)) (fun c30 => ?_)
      refine lv_iconst (v := 0) hx hb d_mo_mask_33 (by decide) ?_
      refine W.widen (k := 0) (n := 0) (Nat.le_of_ble_eq_true rfl) (Nat.le_of_ble_eq_true rfl) ?_
      exact (W.zret hx hb hr rfl (fun t9 ht9 hW9 => ⟨⟨_, _, rfl, ⟨hK, Or.inl ⟨(by first | exact Or.inl (isNo h3 c6) | exact Or.inr (isNo h12 c15)), ⟨_, _, _, _, _, _, _, ⟨f23, f23_u1, f23_u2, f23_u3, f23_u4, f23_u5, f23_u6, f23_u7, n12, n45, n67⟩, hR, hT, hC, hE8, hfl⟩⟩⟩, by rw [ht9]; exact hG.1, hG.2.1⟩, hG.2.2.1.F ht9⟩) hG.2.2.1.2.2 d_mo_mask_34)
    · refine lv_iconst (v := 0) hx hb d_mo_mask_18 (by decide) ?_
      refine lv_goto (tgt := 23) hx hb d_mo_mask_19 (by decide) ?_
      refine g_put S hE.1 hG hmo rfl in_mo ty_mo tyok_mo nm_mo 0 (by decide) tw_491 (fun _ h9 => h9) rfl (ty := .int) (by decide +kernel) rfl rfl (Nat.le_of_ble_eq_true rfl) d_mo_mask_23 (fun H locs hG => ?_)
      have hG : gS (gA G s.heap.size) s.heap Z.1 cls (gup G mo (.inr (4, [.int 0, .int (nI C), .int (nI E), .ref u1, .ref u2, .ref u3, .ref u4, .ref u5, .int (nI M), .int (nI D), .ref u6, .int fl, .ref u7]))) H locs := hG
      generalize eG23 : gup G mo (.inr (4, [.int 0, .int (nI C), .int (nI E), .ref u1, .ref u2, .ref u3, .ref u4, .ref u5, .int (nI M), .int (nI D), .ref u6, .int fl, .ref u7])) = G23 at hG
      have f23_u1 : G23 u1 = some (.inl (Z.2 1, 768, .inl cf)) := by rw [← eG23]; exact gup_keep hmo hc1 (by simp)
      have f23_u2 : G23 u2 = some (.inl (Z.2 2, 768, .inl mf)) := by rw [← eG23]; exact gup_keep hmo hc2 (by simp)
      have f23_u3 : G23 u3 = some (.inl (Z.2 2, 744, .inl ff)) := by rw [← eG23]; exact gup_keep hmo hc3 (by simp)
      have f23_u4 : G23 u4 = some (.inl (Z.2 2, 24, .inl gf)) := by rw [← eG23]; exact gup_keep hmo hc4 (by simp)
      have f23_u5 : G23 u5 = some (.inl (Z.2 1, 24, .inl sf)) := by rw [← eG23]; exact gup_keep hmo hc5 (by simp)
      have f23_u6 : G23 u6 = some (.inl (Z.2 2, 16, .inl tf)) := by rw [← eG23]; exact gup_keep hmo hc6 (by simp)
      have f23_u7 : G23 u7 = some (.inl (Z.2 1, 16, .inl bf)) := by rw [← eG23]; exact gup_keep hmo hc7 (by simp)
      have f23 : G23 mo = some (.inr (4, [.int 0, .int (nI C), .int (nI E), .ref u1, .ref u2, .ref u3, .ref u4, .ref u5, .int (nI M), .int (nI D), .ref u6, .int fl, .ref u7])) := by rw [← eG23]; exact gup_self _ _ _
      have hK : gKe (moI mo u1 u2 u3 u4 u5 u6 u7) G G23 := by rw [← eG23]; exact hK.up (by simp [moI])
      refine lv_aload_n hx hb d_mo_mask_26 rfl (lv_at hl 0 rfl) ?_
      refine g_get S hE.1 hG.1 f23 rfl in_mo 0 (by decide) tw_491 (fun _ h9 => h9) rfl d_mo_mask_27 ?_
      refine lv_if_le (tgt := 35) hx hb d_mo_mask_30 (by decide) (fun c30 => ?_) (fun c30 => absurd c30 (by decide))
      obtain ⟨j, hj⟩ := isOk h3 c6
      obtain ⟨ej, hjM, hgj⟩ := hR.ok.mp hj
      have hj0 := hj
      subst ej
      obtain ⟨k, q, hk, hq, ek, eq⟩ := isOk h12 c15
      subst ek
      subst eq
      have hmz := hR.mkz hjM hgj (show k < 4 by omega) (show q < 8 by omega)
      refine lv_aload_n hx hb d_mo_mask_35 rfl (lv_at hl 0 rfl) ?_
      refine lv_iload_n hx hb d_mo_mask_36 rfl (lv_at hl 1 rfl) ?_
      refine lv_iload_n hx hb d_mo_mask_37 rfl (lv_at hl 2 rfl) ?_
      refine lv_iload_n hx hb d_mo_mask_38 rfl (lv_at hl 3 rfl) ?_
      refine g_reti (g_runV (As := [.int (nI j), .int (nI k), .int (nI q)]) (rest := []) S lk_mo_56 k_mo_place (c_mo_place l Z G23 mo j k q) ⟨rfl, rfl⟩ ⟨Nat.le_of_ble_eq_true rfl, Nat.le_of_ble_eq_true rfl⟩ (gPreV hG.1 hE f23 rfl) rfl hl.1 rfl (Nat.le_of_ble_eq_true rfl) d_mo_mask_39 ⟨Nat.le_of_ble_eq_true rfl, Nat.le_of_ble_eq_true rfl⟩) (fun r39 h39 => ?_)
      refine g_topi (y := nI (32 * j + (8 * k + q))) h39 ?_
      refine lv_istore (lv' := [(4, .int (nI (32 * j + (8 * k + q)))), (0, .ref mo), (1, .int (nI j)), (2, .int (nI k)), (3, .int (nI q))]) hx hb d_mo_mask_42 hl (by decide) rfl (fun ls hl => ?_)
      refine lv_aload_n hx hb d_mo_mask_44 rfl (lv_at hl 1 rfl) ?_
      refine g_get S hE.1 hG.1 f23 rfl in_mo 4 (by decide) tw_495 (fun _ h9 => h9) rfl d_mo_mask_45 ?_
      refine lv_iload hx hb d_mo_mask_48 (lv_at hl 0 rfl) ?_
      refine g_zald S hE.1 hG.1 f23_u2 2 rfl (vp_in_nI (by omega) (by omega)) d_mo_mask_50 ?_
      refine g_topi (congrArg mf (nI_clamp (show (32 * j + (8 * k + q)) < 2 ^ 31 by omega))) ?_
      refine lv_if_ne (tgt := 58) hx hb d_mo_mask_51 (by decide) (fun c51 => ?_) (fun c51 => ?_)
      · refine lv_iconst (v := 0) hx hb d_mo_mask_58 (by decide) ?_
        refine lv_istore (lv' := [(5, .int 0), (4, .int (nI (32 * j + (8 * k + q)))), (0, .ref mo), (1, .int (nI j)), (2, .int (nI k)), (3, .int (nI q))]) hx hb d_mo_mask_59 hl (by decide) rfl (fun ls hl => ?_)
        refine lv_aload_n hx hb d_mo_mask_61 rfl (lv_at hl 2 rfl) ?_
        refine g_get S hE.1 hG.1 f23 rfl in_mo 4 (by decide) tw_495 (fun _ h9 => h9) rfl d_mo_mask_62 ?_
        refine lv_iload hx hb d_mo_mask_65 (lv_at hl 1 rfl) ?_
        refine lv_iconst (v := 1) hx hb d_mo_mask_67 (by decide) ?_
        refine g_zast S hE.1 hG f23_u2 2 rfl (vp_in_nI (by omega) (by omega)) d_mo_mask_68 (fun H locs hG => ?_)
        rw [nI_clamp (show (32 * j + (8 * k + q)) < 2 ^ 31 by omega)] at hG
        have hG : gS (gA G s.heap.size) s.heap Z.1 cls (gup G23 u2 (.inl (Z.2 2, 768, .inl (upd mf (32 * j + (8 * k + q)) 1)))) H locs := hG
        generalize eG68 : gup G23 u2 (.inl (Z.2 2, 768, .inl (upd mf (32 * j + (8 * k + q)) 1))) = G68 at hG
        have f68_u1 : G68 u1 = some (.inl (Z.2 1, 768, .inl cf)) := by rw [← eG68]; exact (gup_ne _ _ n12).trans f23_u1
        have f68_u3 : G68 u3 = some (.inl (Z.2 2, 744, .inl ff)) := by rw [← eG68]; exact gup_keep f23_u2 f23_u3 (by simp)
        have f68_u4 : G68 u4 = some (.inl (Z.2 2, 24, .inl gf)) := by rw [← eG68]; exact gup_keep f23_u2 f23_u4 (by simp)
        have f68_u5 : G68 u5 = some (.inl (Z.2 1, 24, .inl sf)) := by rw [← eG68]; exact gup_keep f23_u2 f23_u5 (by simp)
        have f68_u6 : G68 u6 = some (.inl (Z.2 2, 16, .inl tf)) := by rw [← eG68]; exact gup_keep f23_u2 f23_u6 (by simp)
        have f68_u7 : G68 u7 = some (.inl (Z.2 1, 16, .inl bf)) := by rw [← eG68]; exact gup_keep f23_u2 f23_u7 (by simp)
        have f68_mo : G68 mo = some (.inr (4, [.int 0, .int (nI C), .int (nI E), .ref u1, .ref u2, .ref u3, .ref u4, .ref u5, .int (nI M), .int (nI D), .ref u6, .int fl, .ref u7])) := by rw [← eG68]; exact gup_keep f23_u2 f23 (by simp)
        have f68 : G68 u2 = some (.inl (Z.2 2, 768, .inl (upd mf (32 * j + (8 * k + q)) 1))) := by rw [← eG68]; exact gup_self _ _ _
        have hK : gKe (moI mo u1 u2 u3 u4 u5 u6 u7) G G68 := by rw [← eG68]; exact hK.up (by simp [moI])
        refine lv_iload hx hb d_mo_mask_69 (lv_at hl 0 rfl) ?_
        refine W.widen (k := 0) (n := 0) (Nat.le_of_ble_eq_true rfl) (Nat.le_of_ble_eq_true rfl) ?_
        exact (W.zret hx hb hr rfl (fun t9 ht9 hW9 => ⟨⟨_, _, rfl, ⟨hK, Or.inr ⟨j, k, q, hj0, hk, hq, rfl, rfl, ⟨_, _, _, _, _, _, _, ⟨f68_mo, f68_u1, f68, f68_u3, f68_u4, f68_u5, f68_u6, f68_u7, n12, n45, n67⟩, hR.mkp hjM hgj (by omega) (by omega), hT, hC, hE8, hfl⟩, (by first | rw [if_pos (hmz.mp c51)] | rw [if_neg (fun z => c51 (hmz.mpr z))])⟩⟩, by rw [ht9]; exact hG.1, hG.2.1⟩, hG.2.2.1.F ht9⟩) hG.2.2.1.2.2 d_mo_mask_71)
      · refine lv_iconst (v := 1) hx hb d_mo_mask_54 (by decide) ?_
        refine lv_goto (tgt := 59) hx hb d_mo_mask_55 (by decide) ?_
        refine lv_istore (lv' := [(5, .int 1), (4, .int (nI (32 * j + (8 * k + q)))), (0, .ref mo), (1, .int (nI j)), (2, .int (nI k)), (3, .int (nI q))]) hx hb d_mo_mask_59 hl (by decide) rfl (fun ls hl => ?_)
        refine lv_aload_n hx hb d_mo_mask_61 rfl (lv_at hl 2 rfl) ?_
        refine g_get S hE.1 hG.1 f23 rfl in_mo 4 (by decide) tw_495 (fun _ h9 => h9) rfl d_mo_mask_62 ?_
        refine lv_iload hx hb d_mo_mask_65 (lv_at hl 1 rfl) ?_
        refine lv_iconst (v := 1) hx hb d_mo_mask_67 (by decide) ?_
        refine g_zast S hE.1 hG f23_u2 2 rfl (vp_in_nI (by omega) (by omega)) d_mo_mask_68 (fun H locs hG => ?_)
        rw [nI_clamp (show (32 * j + (8 * k + q)) < 2 ^ 31 by omega)] at hG
        have hG : gS (gA G s.heap.size) s.heap Z.1 cls (gup G23 u2 (.inl (Z.2 2, 768, .inl (upd mf (32 * j + (8 * k + q)) 1)))) H locs := hG
        generalize eG68 : gup G23 u2 (.inl (Z.2 2, 768, .inl (upd mf (32 * j + (8 * k + q)) 1))) = G68 at hG
        have f68_u1 : G68 u1 = some (.inl (Z.2 1, 768, .inl cf)) := by rw [← eG68]; exact (gup_ne _ _ n12).trans f23_u1
        have f68_u3 : G68 u3 = some (.inl (Z.2 2, 744, .inl ff)) := by rw [← eG68]; exact gup_keep f23_u2 f23_u3 (by simp)
        have f68_u4 : G68 u4 = some (.inl (Z.2 2, 24, .inl gf)) := by rw [← eG68]; exact gup_keep f23_u2 f23_u4 (by simp)
        have f68_u5 : G68 u5 = some (.inl (Z.2 1, 24, .inl sf)) := by rw [← eG68]; exact gup_keep f23_u2 f23_u5 (by simp)
        have f68_u6 : G68 u6 = some (.inl (Z.2 2, 16, .inl tf)) := by rw [← eG68]; exact gup_keep f23_u2 f23_u6 (by simp)
        have f68_u7 : G68 u7 = some (.inl (Z.2 1, 16, .inl bf)) := by rw [← eG68]; exact gup_keep f23_u2 f23_u7 (by simp)
        have f68_mo : G68 mo = some (.inr (4, [.int 0, .int (nI C), .int (nI E), .ref u1, .ref u2, .ref u3, .ref u4, .ref u5, .int (nI M), .int (nI D), .ref u6, .int fl, .ref u7])) := by rw [← eG68]; exact gup_keep f23_u2 f23 (by simp)
        have f68 : G68 u2 = some (.inl (Z.2 2, 768, .inl (upd mf (32 * j + (8 * k + q)) 1))) := by rw [← eG68]; exact gup_self _ _ _
        have hK : gKe (moI mo u1 u2 u3 u4 u5 u6 u7) G G68 := by rw [← eG68]; exact hK.up (by simp [moI])
        refine lv_iload hx hb d_mo_mask_69 (lv_at hl 0 rfl) ?_
        refine W.widen (k := 0) (n := 0) (Nat.le_of_ble_eq_true rfl) (Nat.le_of_ble_eq_true rfl) ?_
        exact (W.zret hx hb hr rfl (fun t9 ht9 hW9 => ⟨⟨_, _, rfl, ⟨hK, Or.inr ⟨j, k, q, hj0, hk, hq, rfl, rfl, ⟨_, _, _, _, _, _, _, ⟨f68_mo, f68_u1, f68, f68_u3, f68_u4, f68_u5, f68_u6, f68_u7, n12, n45, n67⟩, hR.mkp hjM hgj (by omega) (by omega), hT, hC, hE8, hfl⟩, (by first | rw [if_pos (hmz.mp c51)] | rw [if_neg (fun z => c51 (hmz.mpr z))])⟩⟩, by rw [ht9]; exact hG.1, hG.2.1⟩, hG.2.2.1.F ht9⟩) hG.2.2.1.2.2 d_mo_mask_71)

set_option maxHeartbeats 600000 in
set_option maxRecDepth 100000 in
theorem c_mo_finders (l : Launch) (Z : gZ) (G : gh) (sz : Nat) (mo : Nat) {u1 u2 u3 u4 u5 u6 u7 : Nat} {th : Int32} {C E M D : Nat} {fl tp : Int32} {pt : Nat → Option Nat} {pd : Nat → Pat} (hQ : moQ Z G mo u1 u2 u3 u4 u5 u6 u7 th C E M D fl tp pt pd) (f0 : Int32) : Met l y_mo_finders (wd_mo_finders :: Gall) ({ frames := 1, cells := 0, slots := 0, locals := 23 }) (va_Pc [.ref mo, .int f0] (gPw Z G sz)) (va_Qi (fun (r : Int32) (G9 : gh) => gKe (moI mo u1 u2 u3 u4 u5 u6 u7) G G9 ∧ (((¬ ∃ k, k < 31 ∧ f0 = nI k) ∧ moQ Z G9 mo u1 u2 u3 u4 u5 u6 u7 1 C E M D fl tp pt pd) ∨ (∃ f, f < 31 ∧ f0 = nI f ∧ moQ Z G9 mo u1 u2 u3 u4 u5 u6 u7 0 C E M D fl tp pt pd ∧ r = nI (cntF pt pd ((1 : Int32) <<< (nI f &&& 31)) 24)))) (gW Z G sz) (gA G sz)) 0 0 (gA G sz) := by
  refine Met.ofW (cc := b_mo_finders) (maxL := 2) (ret := (some .int)) (by decide) rfl ?_
  intro p e s m args below meth c s₁ B hml hv
  obtain ⟨rfl, hsz, hG, hE⟩ := hv
  subst hsz
  have hx := B.exec
  have hb := B.bytes
  have hr := B.returns
  have hlocks := B.notSynchronized
  have S : CallFix p m c b_mo_finders 2 s _ Gall "PackSeedsModel" := ⟨hx, hb, hml, findClass_of_methodNamed B.named, fun w hw => atoms_spec (ws := wd_mo_finders :: Gall) B.pre w (List.mem_cons_of_mem _ hw)⟩
  have hG : gS (gA G s.heap.size) s.heap Z.1 cls G s.heap [] := gS.start hG
  have hl := lv_entry ([.ref mo, .int f0]) (n := 2) (Nat.le_of_ble_eq_true rfl)
  rw [lg_entry_eq]
  generalize (lg_sl ([.ref mo, .int f0]) ++ List.replicate (2 - (lg_sl ([.ref mo, .int f0])).length) Slot.unset).toArray = ls at hl ⊢
  have hl : lv_has ls 2 [(0, .ref mo), (1, .int f0)] := hl
  have hK : gKe (moI mo u1 u2 u3 u4 u5 u6 u7) G G := gKe.rf
  obtain ⟨cf, mf, ff, gf, sf, tf, bf, hP, hR, hT, hC, hE8, hfl⟩ := hQ
  have hP0 := hP
  obtain ⟨hmo, hc1, hc2, hc3, hc4, hc5, hc6, hc7, n12, n45, n67⟩ := hP
  have hM24 := hR.1
  have hD1 := hT.1
  have hD16 := hT.2.1
  refine lv_aload_n hx hb d_mo_finders_0 rfl (lv_at hl 0 rfl) ?_
  refine lv_iload_n hx hb d_mo_finders_1 rfl (lv_at hl 1 rfl) ?_
  refine lv_if_lt (tgt := 15) hx hb d_mo_finders_2 (by decide) (fun c2 => ?_) (fun c2 => ?_)
  · refine lv_iconst (v := 1) hx hb d_mo_finders_15 (by decide) ?_
    refine g_put S hE.1 hG hmo rfl in_mo ty_mo tyok_mo nm_mo 0 (by decide) tw_491 (fun _ h9 => h9) rfl (ty := .int) (by decide +kernel) rfl rfl (Nat.le_of_ble_eq_true rfl) d_mo_finders_16 (fun H locs hG => ?_)
    have hG : gS (gA G s.heap.size) s.heap Z.1 cls (gup G mo (.inr (4, [.int 1, .int (nI C), .int (nI E), .ref u1, .ref u2, .ref u3, .ref u4, .ref u5, .int (nI M), .int (nI D), .ref u6, .int fl, .ref u7]))) H locs := hG
    generalize eG16 : gup G mo (.inr (4, [.int 1, .int (nI C), .int (nI E), .ref u1, .ref u2, .ref u3, .ref u4, .ref u5, .int (nI M), .int (nI D), .ref u6, .int fl, .ref u7])) = G16 at hG
    have f16_u1 : G16 u1 = some (.inl (Z.2 1, 768, .inl cf)) := by rw [← eG16]; exact gup_keep hmo hc1 (by simp)
    have f16_u2 : G16 u2 = some (.inl (Z.2 2, 768, .inl mf)) := by rw [← eG16]; exact gup_keep hmo hc2 (by simp)
    have f16_u3 : G16 u3 = some (.inl (Z.2 2, 744, .inl ff)) := by rw [← eG16]; exact gup_keep hmo hc3 (by simp)
    have f16_u4 : G16 u4 = some (.inl (Z.2 2, 24, .inl gf)) := by rw [← eG16]; exact gup_keep hmo hc4 (by simp)
    have f16_u5 : G16 u5 = some (.inl (Z.2 1, 24, .inl sf)) := by rw [← eG16]; exact gup_keep hmo hc5 (by simp)
    have f16_u6 : G16 u6 = some (.inl (Z.2 2, 16, .inl tf)) := by rw [← eG16]; exact gup_keep hmo hc6 (by simp)
    have f16_u7 : G16 u7 = some (.inl (Z.2 1, 16, .inl bf)) := by rw [← eG16]; exact gup_keep hmo hc7 (by simp)
    have f16 : G16 mo = some (.inr (4, [.int 1, .int (nI C), .int (nI E), .ref u1, .ref u2, .ref u3, .ref u4, .ref u5, .int (nI M), .int (nI D), .ref u6, .int fl, .ref u7])) := by rw [← eG16]; exact gup_self _ _ _
    have hK : gKe (moI mo u1 u2 u3 u4 u5 u6 u7) G G16 := by rw [← eG16]; exact hK.up (by simp [moI])
    refine lv_aload_n hx hb d_mo_finders_19 rfl (lv_at hl 0 rfl) ?_
    refine g_get S hE.1 hG.1 f16 rfl in_mo 0 (by decide) tw_491 (fun _ h9 => h9) rfl d_mo_finders_20 ?_
    refine lv_if_le (tgt := 30) hx hb d_mo_finders_23 (by decide) (fun c23 => absurd c23 (by decide)) (fun c23 => ?_)
    refine lv_iconst (v := 0) hx hb d_mo_finders_26 (by decide) ?_
    refine lv_goto (tgt := 35) hx hb d_mo_finders_27 (by decide) ?_
    refine W.widen (k := 0) (n := 0) (Nat.le_of_ble_eq_true rfl) (Nat.le_of_ble_eq_true rfl) ?_
    exact (W.iret hx hb hr (fun t9 ht9 hW9 => ⟨⟨_, _, rfl, ⟨hK, Or.inl ⟨(by rintro ⟨k, hk, rfl⟩; first | exact absurd c2 (nI_pos (by omega)) | exact absurd c8 (nI_ge hk (by omega))), ⟨_, _, _, _, _, _, _, ⟨f16, f16_u1, f16_u2, f16_u3, f16_u4, f16_u5, f16_u6, f16_u7, n12, n45, n67⟩, hR, hT, hC, hE8, hfl⟩⟩⟩, by rw [ht9]; exact hG.1, hG.2.1⟩, hG.2.2.1.F ht9⟩) hG.2.2.1.2.2 d_mo_finders_35)
  · refine lv_iload_n hx hb d_mo_finders_5 rfl (lv_at hl 1 rfl) ?_
    refine lv_bipush (v := nI 31) hx hb d_mo_finders_6 (by decide) ?_
    refine lv_icmp_ge (tgt := 15) hx hb d_mo_finders_8 (by decide) (fun c8 => ?_) (fun c8 => ?_)
    · refine lv_iconst (v := 1) hx hb d_mo_finders_15 (by decide) ?_
      refine g_put S hE.1 hG hmo rfl in_mo ty_mo tyok_mo nm_mo 0 (by decide) tw_491 (fun _ h9 => h9) rfl (ty := .int) (by decide +kernel) rfl rfl (Nat.le_of_ble_eq_true rfl) d_mo_finders_16 (fun H locs hG => ?_)
      have hG : gS (gA G s.heap.size) s.heap Z.1 cls (gup G mo (.inr (4, [.int 1, .int (nI C), .int (nI E), .ref u1, .ref u2, .ref u3, .ref u4, .ref u5, .int (nI M), .int (nI D), .ref u6, .int fl, .ref u7]))) H locs := hG
      generalize eG16 : gup G mo (.inr (4, [.int 1, .int (nI C), .int (nI E), .ref u1, .ref u2, .ref u3, .ref u4, .ref u5, .int (nI M), .int (nI D), .ref u6, .int fl, .ref u7])) = G16 at hG
      have f16_u1 : G16 u1 = some (.inl (Z.2 1, 768, .inl cf)) := by rw [← eG16]; exact gup_keep hmo hc1 (by simp)
      have f16_u2 : G16 u2 = some (.inl (Z.2 2, 768, .inl mf)) := by rw [← eG16]; exact gup_keep hmo hc2 (by simp)
      have f16_u3 : G16 u3 = some (.inl (Z.2 2, 744, .inl ff)) := by rw [← eG16]; exact gup_keep hmo hc3 (by simp)
      have f16_u4 : G16 u4 = some (.inl (Z.2 2, 24, .inl gf)) := by rw [← eG16]; exact gup_keep hmo hc4 (by simp)
      have f16_u5 : G16 u5 = some (.inl (Z.2 1, 24, .inl sf)) := by rw [← eG16]; exact gup_keep hmo hc5 (by simp)
      have f16_u6 : G16 u6 = some (.inl (Z.2 2, 16, .inl tf)) := by rw [← eG16]; exact gup_keep hmo hc6 (by simp)
      have f16_u7 : G16 u7 = some (.inl (Z.2 1, 16, .inl bf)) := by rw [← eG16]; exact gup_keep hmo hc7 (by simp)
      have f16 : G16 mo = some (.inr (4, [.int 1, .int (nI C), .int (nI E), .ref u1, .ref u2, .ref u3, .ref u4, .ref u5, .int (nI M), .int (nI D), .ref u6, .int fl, .ref u7])) := by rw [← eG16]; exact gup_self _ _ _
      have hK : gKe (moI mo u1 u2 u3 u4 u5 u6 u7) G G16 := by rw [← eG16]; exact hK.up (by simp [moI])
      refine lv_aload_n hx hb d_mo_finders_19 rfl (lv_at hl 0 rfl) ?_
      refine g_get S hE.1 hG.1 f16 rfl in_mo 0 (by decide) tw_491 (fun _ h9 => h9) rfl d_mo_finders_20 ?_
      refine lv_if_le (tgt := 30) hx hb d_mo_finders_23 (by decide) (fun c23 => absurd c23 (by decide)) (fun c23 => ?_)
      refine lv_iconst (v := 0) hx hb d_mo_finders_26 (by decide) ?_
      refine lv_goto (tgt := 35) hx hb d_mo_finders_27 (by decide) ?_
      refine W.widen (k := 0) (n := 0) (Nat.le_of_ble_eq_true rfl) (Nat.le_of_ble_eq_true rfl) ?_
      exact (W.iret hx hb hr (fun t9 ht9 hW9 => ⟨⟨_, _, rfl, ⟨hK, Or.inl ⟨(by rintro ⟨k, hk, rfl⟩; first | exact absurd c2 (nI_pos (by omega)) | exact absurd c8 (nI_ge hk (by omega))), ⟨_, _, _, _, _, _, _, ⟨f16, f16_u1, f16_u2, f16_u3, f16_u4, f16_u5, f16_u6, f16_u7, n12, n45, n67⟩, hR, hT, hC, hE8, hfl⟩⟩⟩, by rw [ht9]; exact hG.1, hG.2.1⟩, hG.2.2.1.F ht9⟩) hG.2.2.1.2.2 d_mo_finders_35)
    · refine lv_iconst (v := 0) hx hb d_mo_finders_11 (by decide) ?_
      refine lv_goto (tgt := 16) hx hb d_mo_finders_12 (by decide) ?_
      refine g_put S hE.1 hG hmo rfl in_mo ty_mo tyok_mo nm_mo 0 (by decide) tw_491 (fun _ h9 => h9) rfl (ty := .int) (by decide +kernel) rfl rfl (Nat.le_of_ble_eq_true rfl) d_mo_finders_16 (fun H locs hG => ?_)
      have hG : gS (gA G s.heap.size) s.heap Z.1 cls (gup G mo (.inr (4, [.int 0, .int (nI C), .int (nI E), .ref u1, .ref u2, .ref u3, .ref u4, .ref u5, .int (nI M), .int (nI D), .ref u6, .int fl, .ref u7]))) H locs := hG
      generalize eG16 : gup G mo (.inr (4, [.int 0, .int (nI C), .int (nI E), .ref u1, .ref u2, .ref u3, .ref u4, .ref u5, .int (nI M), .int (nI D), .ref u6, .int fl, .ref u7])) = G16 at hG
      have f16_u1 : G16 u1 = some (.inl (Z.2 1, 768, .inl cf)) := by rw [← eG16]; exact gup_keep hmo hc1 (by simp)
      have f16_u2 : G16 u2 = some (.inl (Z.2 2, 768, .inl mf)) := by rw [← eG16]; exact gup_keep hmo hc2 (by simp)
      have f16_u3 : G16 u3 = some (.inl (Z.2 2, 744, .inl ff)) := by rw [← eG16]; exact gup_keep hmo hc3 (by simp)
      have f16_u4 : G16 u4 = some (.inl (Z.2 2, 24, .inl gf)) := by rw [← eG16]; exact gup_keep hmo hc4 (by simp)
      have f16_u5 : G16 u5 = some (.inl (Z.2 1, 24, .inl sf)) := by rw [← eG16]; exact gup_keep hmo hc5 (by simp)
      have f16_u6 : G16 u6 = some (.inl (Z.2 2, 16, .inl tf)) := by rw [← eG16]; exact gup_keep hmo hc6 (by simp)
      have f16_u7 : G16 u7 = some (.inl (Z.2 1, 16, .inl bf)) := by rw [← eG16]; exact gup_keep hmo hc7 (by simp)
      have f16 : G16 mo = some (.inr (4, [.int 0, .int (nI C), .int (nI E), .ref u1, .ref u2, .ref u3, .ref u4, .ref u5, .int (nI M), .int (nI D), .ref u6, .int fl, .ref u7])) := by rw [← eG16]; exact gup_self _ _ _
      have hK : gKe (moI mo u1 u2 u3 u4 u5 u6 u7) G G16 := by rw [← eG16]; exact hK.up (by simp [moI])
      refine lv_aload_n hx hb d_mo_finders_19 rfl (lv_at hl 0 rfl) ?_
      refine g_get S hE.1 hG.1 f16 rfl in_mo 0 (by decide) tw_491 (fun _ h9 => h9) rfl d_mo_finders_20 ?_
      refine lv_if_le (tgt := 30) hx hb d_mo_finders_23 (by decide) (fun c23 => ?_) (fun c23 => absurd c23 (by decide))
      obtain ⟨f, hf, ef⟩ := rngD (show 31 < 2 ^ 31 by omega) c2 (Int32.not_le.mp c8)
      subst ef
      refine lv_aload_n hx hb d_mo_finders_30 rfl (lv_at hl 0 rfl) ?_
      refine lv_iload_n hx hb d_mo_finders_31 rfl (lv_at hl 1 rfl) ?_
      refine g_reti (g_runV (As := [.int (nI f)]) (rest := []) S lk_mo_67 k_mo_findersOf (c_mo_findersOf l Z G16 mo ⟨f16, f16_u1, f16_u2, f16_u3, f16_u4, f16_u5, f16_u6, f16_u7, n12, n45, n67⟩ hR f hf) ⟨rfl, rfl⟩ ⟨Nat.le_of_ble_eq_true rfl, Nat.le_of_ble_eq_true rfl⟩ (gPreV hG.1 hE f16 rfl) rfl hl.1 rfl (Nat.le_of_ble_eq_true rfl) d_mo_finders_32 ⟨Nat.le_of_ble_eq_true rfl, Nat.le_of_ble_eq_true rfl⟩) (fun r32 h32 => ?_)
      refine W.widen (k := 0) (n := 0) (Nat.le_of_ble_eq_true rfl) (Nat.le_of_ble_eq_true rfl) ?_
      exact (W.iret hx hb hr (fun t9 ht9 hW9 => ⟨⟨_, _, rfl, ⟨hK, Or.inr ⟨f, hf, rfl, ⟨_, _, _, _, _, _, _, ⟨f16, f16_u1, f16_u2, f16_u3, f16_u4, f16_u5, f16_u6, f16_u7, n12, n45, n67⟩, hR, hT, hC, hE8, hfl⟩, h32⟩⟩, by rw [ht9]; exact hG.1, hG.2.1⟩, hG.2.2.1.F ht9⟩) hG.2.2.1.2.2 d_mo_finders_35)

set_option maxHeartbeats 600000 in
set_option maxRecDepth 100000 in
theorem c_mo_degree (l : Launch) (Z : gZ) (G : gh) (sz : Nat) (mo : Nat) {u1 u2 u3 u4 u5 u6 u7 : Nat} {th : Int32} {C E M D : Nat} {fl tp : Int32} {pt : Nat → Option Nat} {pd : Nat → Pat} (hQ : moQ Z G mo u1 u2 u3 u4 u5 u6 u7 th C E M D fl tp pt pd) (d : Int32) : Met l y_mo_degree (wd_mo_degree :: Gall) ({ frames := 1, cells := 0, slots := 0, locals := 21 }) (va_Pc [.ref mo, .int d] (gPw Z G sz)) (va_Qv (fun (G9 : gh) => gKe (moI mo u1 u2 u3 u4 u5 u6 u7) G G9 ∧ (((¬ ∃ N, 1 ≤ N ∧ N ≤ 16 ∧ d = nI N) ∧ moQ Z G9 mo u1 u2 u3 u4 u5 u6 u7 1 C E M D fl tp pt pd) ∨ (∃ N, 1 ≤ N ∧ N ≤ 16 ∧ d = nI N ∧ moQ Z G9 mo u1 u2 u3 u4 u5 u6 u7 0 C E M N fl ((1 : Int32) <<< ((d - 1) &&& 31)) pt (fgN pt pd 24)))) (gW Z G sz) (gA G sz)) 0 0 (gA G sz) := by
  refine Met.ofW (cc := b_mo_degree) (maxL := 3) (ret := none) (by decide) rfl ?_
  intro p e s m args below meth c s₁ B hml hv
  obtain ⟨rfl, hsz, hG, hE⟩ := hv
  subst hsz
  have hx := B.exec
  have hb := B.bytes
  have hr := B.returns
  have hlocks := B.notSynchronized
  have S : CallFix p m c b_mo_degree 3 s _ Gall "PackSeedsModel" := ⟨hx, hb, hml, findClass_of_methodNamed B.named, fun w hw => atoms_spec (ws := wd_mo_degree :: Gall) B.pre w (List.mem_cons_of_mem _ hw)⟩
  have hG : gS (gA G s.heap.size) s.heap Z.1 cls G s.heap [] := gS.start hG
  have hl := lv_entry ([.ref mo, .int d]) (n := 3) (Nat.le_of_ble_eq_true rfl)
  rw [lg_entry_eq]
  generalize (lg_sl ([.ref mo, .int d]) ++ List.replicate (3 - (lg_sl ([.ref mo, .int d])).length) Slot.unset).toArray = ls at hl ⊢
  have hl : lv_has ls 3 [(0, .ref mo), (1, .int d)] := hl
  have hK : gKe (moI mo u1 u2 u3 u4 u5 u6 u7) G G := gKe.rf
  obtain ⟨cf, mf, ff, gf, sf, tf, bf, hP, hR, hT, hC, hE8, hfl⟩ := hQ
  have hP0 := hP
  obtain ⟨hmo, hc1, hc2, hc3, hc4, hc5, hc6, hc7, n12, n45, n67⟩ := hP
  have hM24 := hR.1
  have hD1 := hT.1
  have hD16 := hT.2.1
  refine lv_aload_n hx hb d_mo_degree_0 rfl (lv_at hl 0 rfl) ?_
  refine lv_iload_n hx hb d_mo_degree_1 rfl (lv_at hl 1 rfl) ?_
  refine lv_iconst (v := 1) hx hb d_mo_degree_2 (by decide) ?_
  refine lv_icmp_lt (tgt := 12) hx hb d_mo_degree_3 (by decide) (fun c3 => ?_) (fun c3 => ?_)
  · refine lv_iconst (v := 1) hx hb d_mo_degree_12 (by decide) ?_
    refine lv_goto (tgt := 17) hx hb d_mo_degree_13 (by decide) ?_
    refine g_put S hE.1 hG hmo rfl in_mo ty_mo tyok_mo nm_mo 0 (by decide) tw_491 (fun _ h9 => h9) rfl (ty := .int) (by decide +kernel) rfl rfl (Nat.le_of_ble_eq_true rfl) d_mo_degree_17 (fun H locs hG => ?_)
    have hG : gS (gA G s.heap.size) s.heap Z.1 cls (gup G mo (.inr (4, [.int 1, .int (nI C), .int (nI E), .ref u1, .ref u2, .ref u3, .ref u4, .ref u5, .int (nI M), .int (nI D), .ref u6, .int fl, .ref u7]))) H locs := hG
    generalize eG17 : gup G mo (.inr (4, [.int 1, .int (nI C), .int (nI E), .ref u1, .ref u2, .ref u3, .ref u4, .ref u5, .int (nI M), .int (nI D), .ref u6, .int fl, .ref u7])) = G17 at hG
    have f17_u1 : G17 u1 = some (.inl (Z.2 1, 768, .inl cf)) := by rw [← eG17]; exact gup_keep hmo hc1 (by simp)
    have f17_u2 : G17 u2 = some (.inl (Z.2 2, 768, .inl mf)) := by rw [← eG17]; exact gup_keep hmo hc2 (by simp)
    have f17_u3 : G17 u3 = some (.inl (Z.2 2, 744, .inl ff)) := by rw [← eG17]; exact gup_keep hmo hc3 (by simp)
    have f17_u4 : G17 u4 = some (.inl (Z.2 2, 24, .inl gf)) := by rw [← eG17]; exact gup_keep hmo hc4 (by simp)
    have f17_u5 : G17 u5 = some (.inl (Z.2 1, 24, .inl sf)) := by rw [← eG17]; exact gup_keep hmo hc5 (by simp)
    have f17_u6 : G17 u6 = some (.inl (Z.2 2, 16, .inl tf)) := by rw [← eG17]; exact gup_keep hmo hc6 (by simp)
    have f17_u7 : G17 u7 = some (.inl (Z.2 1, 16, .inl bf)) := by rw [← eG17]; exact gup_keep hmo hc7 (by simp)
    have f17 : G17 mo = some (.inr (4, [.int 1, .int (nI C), .int (nI E), .ref u1, .ref u2, .ref u3, .ref u4, .ref u5, .int (nI M), .int (nI D), .ref u6, .int fl, .ref u7])) := by rw [← eG17]; exact gup_self _ _ _
    have hK : gKe (moI mo u1 u2 u3 u4 u5 u6 u7) G G17 := by rw [← eG17]; exact hK.up (by simp [moI])
    refine lv_aload_n hx hb d_mo_degree_20 rfl (lv_at hl 0 rfl) ?_
    refine g_get S hE.1 hG.1 f17 rfl in_mo 0 (by decide) tw_491 (fun _ h9 => h9) rfl d_mo_degree_21 ?_
    refine lv_if_le (tgt := 28) hx hb d_mo_degree_24 (by decide) (fun c24 => absurd c24 (by decide)) (fun c24 => ?_)
    refine W.widen (k := 0) (n := 0) (Nat.le_of_ble_eq_true rfl) (Nat.le_of_ble_eq_true rfl) ?_
    exact (W.vret hx hb hr (fun t9 ht9 hW9 => ⟨⟨_, rfl, ⟨hK, Or.inl ⟨(by rintro ⟨N, h1, h2, rfl⟩; first | exact (rng16' h1 h2).1 c3 | exact c9 (rng16' h1 h2).2), ⟨_, _, _, _, _, _, _, ⟨f17, f17_u1, f17_u2, f17_u3, f17_u4, f17_u5, f17_u6, f17_u7, n12, n45, n67⟩, hR, hT, hC, hE8, hfl⟩⟩⟩, by rw [ht9]; exact hG.1, hG.2.1⟩, hG.2.2.1.F ht9⟩) hG.2.2.1.2.2 d_mo_degree_27)
  · refine lv_iload_n hx hb d_mo_degree_6 rfl (lv_at hl 1 rfl) ?_
    refine lv_bipush (v := 16) hx hb d_mo_degree_7 (by decide) ?_
    refine lv_icmp_le (tgt := 16) hx hb d_mo_degree_9 (by decide) (fun c9 => ?_) (fun c9 => ?_)
    · refine lv_iconst (v := 0) hx hb d_mo_degree_16 (by decide) ?_
      refine g_put S hE.1 hG hmo rfl in_mo ty_mo tyok_mo nm_mo 0 (by decide) tw_491 (fun _ h9 => h9) rfl (ty := .int) (by decide +kernel) rfl rfl (Nat.le_of_ble_eq_true rfl) d_mo_degree_17 (fun H locs hG => ?_)
      have hG : gS (gA G s.heap.size) s.heap Z.1 cls (gup G mo (.inr (4, [.int 0, .int (nI C), .int (nI E), .ref u1, .ref u2, .ref u3, .ref u4, .ref u5, .int (nI M), .int (nI D), .ref u6, .int fl, .ref u7]))) H locs := hG
      generalize eG17 : gup G mo (.inr (4, [.int 0, .int (nI C), .int (nI E), .ref u1, .ref u2, .ref u3, .ref u4, .ref u5, .int (nI M), .int (nI D), .ref u6, .int fl, .ref u7])) = G17 at hG
      have f17_u1 : G17 u1 = some (.inl (Z.2 1, 768, .inl cf)) := by rw [← eG17]; exact gup_keep hmo hc1 (by simp)
      have f17_u2 : G17 u2 = some (.inl (Z.2 2, 768, .inl mf)) := by rw [← eG17]; exact gup_keep hmo hc2 (by simp)
      have f17_u3 : G17 u3 = some (.inl (Z.2 2, 744, .inl ff)) := by rw [← eG17]; exact gup_keep hmo hc3 (by simp)
      have f17_u4 : G17 u4 = some (.inl (Z.2 2, 24, .inl gf)) := by rw [← eG17]; exact gup_keep hmo hc4 (by simp)
      have f17_u5 : G17 u5 = some (.inl (Z.2 1, 24, .inl sf)) := by rw [← eG17]; exact gup_keep hmo hc5 (by simp)
      have f17_u6 : G17 u6 = some (.inl (Z.2 2, 16, .inl tf)) := by rw [← eG17]; exact gup_keep hmo hc6 (by simp)
      have f17_u7 : G17 u7 = some (.inl (Z.2 1, 16, .inl bf)) := by rw [← eG17]; exact gup_keep hmo hc7 (by simp)
      have f17 : G17 mo = some (.inr (4, [.int 0, .int (nI C), .int (nI E), .ref u1, .ref u2, .ref u3, .ref u4, .ref u5, .int (nI M), .int (nI D), .ref u6, .int fl, .ref u7])) := by rw [← eG17]; exact gup_self _ _ _
      have hK : gKe (moI mo u1 u2 u3 u4 u5 u6 u7) G G17 := by rw [← eG17]; exact hK.up (by simp [moI])
      refine lv_aload_n hx hb d_mo_degree_20 rfl (lv_at hl 0 rfl) ?_
      refine g_get S hE.1 hG.1 f17 rfl in_mo 0 (by decide) tw_491 (fun _ h9 => h9) rfl d_mo_degree_21 ?_
      refine lv_if_le (tgt := 28) hx hb d_mo_degree_24 (by decide) (fun c24 => ?_) (fun c24 => absurd c24 (by decide))
      obtain ⟨N, hN1, hN2, eN⟩ := rng16 c3 c9
      subst eN
      refine lv_aload_n hx hb d_mo_degree_28 rfl (lv_at hl 0 rfl) ?_
      refine lv_iload_n hx hb d_mo_degree_29 rfl (lv_at hl 1 rfl) ?_
      refine g_put S hE.1 hG f17 rfl in_mo ty_mo tyok_mo nm_mo 9 (by decide) tw_500 (fun _ h9 => h9) rfl (ty := .int) (by decide +kernel) rfl rfl (Nat.le_of_ble_eq_true rfl) d_mo_degree_30 (fun H locs hG => ?_)
      have hG : gS (gA G s.heap.size) s.heap Z.1 cls (gup G17 mo (.inr (4, [.int 0, .int (nI C), .int (nI E), .ref u1, .ref u2, .ref u3, .ref u4, .ref u5, .int (nI M), .int (nI N), .ref u6, .int fl, .ref u7]))) H locs := hG
      generalize eG30 : gup G17 mo (.inr (4, [.int 0, .int (nI C), .int (nI E), .ref u1, .ref u2, .ref u3, .ref u4, .ref u5, .int (nI M), .int (nI N), .ref u6, .int fl, .ref u7])) = G30 at hG
      have f30_u1 : G30 u1 = some (.inl (Z.2 1, 768, .inl cf)) := by rw [← eG30]; exact gup_keep f17 f17_u1 (by simp)
      have f30_u2 : G30 u2 = some (.inl (Z.2 2, 768, .inl mf)) := by rw [← eG30]; exact gup_keep f17 f17_u2 (by simp)
      have f30_u3 : G30 u3 = some (.inl (Z.2 2, 744, .inl ff)) := by rw [← eG30]; exact gup_keep f17 f17_u3 (by simp)
      have f30_u4 : G30 u4 = some (.inl (Z.2 2, 24, .inl gf)) := by rw [← eG30]; exact gup_keep f17 f17_u4 (by simp)
      have f30_u5 : G30 u5 = some (.inl (Z.2 1, 24, .inl sf)) := by rw [← eG30]; exact gup_keep f17 f17_u5 (by simp)
      have f30_u6 : G30 u6 = some (.inl (Z.2 2, 16, .inl tf)) := by rw [← eG30]; exact gup_keep f17 f17_u6 (by simp)
      have f30_u7 : G30 u7 = some (.inl (Z.2 1, 16, .inl bf)) := by rw [← eG30]; exact gup_keep f17 f17_u7 (by simp)
      have f30 : G30 mo = some (.inr (4, [.int 0, .int (nI C), .int (nI E), .ref u1, .ref u2, .ref u3, .ref u4, .ref u5, .int (nI M), .int (nI N), .ref u6, .int fl, .ref u7])) := by rw [← eG30]; exact gup_self _ _ _
      have hK : gKe (moI mo u1 u2 u3 u4 u5 u6 u7) G G30 := by rw [← eG30]; exact hK.up (by simp [moI])
      refine lv_iconst (v := nI 0) hx hb d_mo_degree_33 (by decide) ?_
      refine lv_istore_n (lv' := [(2, .int (nI 0)), (0, .ref mo), (1, .int (nI N))]) hx hb d_mo_degree_34 rfl hl (by decide) rfl (fun ls hl => ?_)
      refine g_indH (V := Nat × (Nat → Int32) × gh) (fun (k, tq, Gx) H locs ls => ((k ≤ 16 ∧ ∀ j, j < k → tq j = zb (decide (j = N - 1))) ∧ gKe (moI mo u1 u2 u3 u4 u5 u6 u7) G Gx ∧ moP Z Gx mo u1 u2 u3 u4 u5 u6 u7 0 C E M N fl cf mf ff gf sf tq bf) ∧ gS (gA G s.heap.size) s.heap Z.1 cls Gx H locs ∧ lv_has ls 3 [(0, .ref mo), (1, .int (nI N)), (2, .int (nI k))]) (fun (k, tq, Gx) => 16 - k) ?_ (0, tf, G30) _ ⟨⟨⟨Nat.zero_le _, fun j h9 => by omega⟩, hK, ⟨f30, f30_u1, f30_u2, f30_u3, f30_u4, f30_u5, f30_u6, f30_u7, n12, n45, n67⟩⟩, hG, lv_sub hl [1, 2, 0] rfl⟩
      intro v H locs ls hI ih35
      obtain ⟨k, tq, Gx⟩ := v
      obtain ⟨⟨⟨hk, htq⟩, hK, hP35⟩, hG, hl⟩ := hI
      have hQ35 := hP35
      obtain ⟨hmo35, hc135, hc235, hc335, hc435, hc535, hc635, hc735, -⟩ := hP35
      refine lv_iload_n hx hb d_mo_degree_35 rfl (lv_at hl 2 rfl) ?_
      refine lv_bipush (v := nI 16) hx hb d_mo_degree_36 (by decide) ?_
      refine g_ge (tgt := 65) hx hb d_mo_degree_38 (by decide) (by omega) (by omega) (fun c38 => ?_) (fun c38 => ?_)
      · refine lv_aload_n hx hb d_mo_degree_65 rfl (lv_at hl 0 rfl) ?_
        refine g_wv hG (g_runV (As := []) (rest := []) S lk_mo_71 k_mo_noSeeds (c_mo_noSeeds l Z Gx H.size mo ⟨hmo35, hc135, hc235, hc335, hc435, hc535, hc635, hc735, n12, n45, n67⟩ hM24) ⟨rfl, rfl⟩ ⟨(Nat.le_of_ble_eq_true rfl), (Nat.le_of_ble_eq_true rfl)⟩ (gPwV hG.1 hE hmo35 rfl) rfl hl.1 rfl (Nat.le_of_ble_eq_true rfl) d_mo_degree_66 ⟨(Nat.le_of_ble_eq_true rfl), (Nat.le_of_ble_eq_true rfl)⟩) (fun G66 H locs h66 hG => ?_)
        obtain ⟨s9, hs9, hK66, hQ66⟩ := h66
        have hPs := hQ66
        obtain ⟨hmos, hc1s, hc2s, hc3s, hc4s, hc5s, hc6s, hc7s, -⟩ := hQ66
        have hK : gKe (moI mo u1 u2 u3 u4 u5 u6 u7) G G66 := hK.tr hK66
        refine W.widen (k := 0) (n := 0) (Nat.le_of_ble_eq_true rfl) (Nat.le_of_ble_eq_true rfl) ?_
        exact (W.vret hx hb hr (fun t9 ht9 hW9 => ⟨⟨_, rfl, ⟨hK, Or.inr ⟨N, hN1, hN2, rfl, ⟨_, _, _, _, _, _, _, ⟨hmos, hc1s, hc2s, hc3s, hc4s, hc5s, hc6s, hc7s, n12, n45, n67⟩, hR.fg hs9, simT_deg hN1 hN2 (fun j h9 => htq j (by omega)), hC, hE8, hfl⟩⟩⟩, by rw [ht9]; exact hG.1, hG.2.1⟩, hG.2.2.1.F ht9⟩) hG.2.2.1.2.2 d_mo_degree_69)
      · refine lv_aload_n hx hb d_mo_degree_41 rfl (lv_at hl 0 rfl) ?_
        refine g_get S hE.1 hG.1 hmo35 rfl in_mo 10 (by decide) tw_501 (fun _ h9 => h9) rfl d_mo_degree_42 ?_
        refine lv_iload_n hx hb d_mo_degree_45 rfl (lv_at hl 2 rfl) ?_
        refine lv_iload_n hx hb d_mo_degree_46 rfl (lv_at hl 2 rfl) ?_
        refine lv_iload_n hx hb d_mo_degree_47 rfl (lv_at hl 1 rfl) ?_
        refine lv_iconst (v := 1) hx hb d_mo_degree_48 (by decide) ?_
        refine lv_isub hx hb d_mo_degree_49 ?_
        refine g_topi (y := nI (N - 1)) (nI_pred1 hN1) ?_
        refine g_ne (tgt := 57) hx hb d_mo_degree_50 (by decide) (by omega) (by omega) (fun c50 => ?_) (fun c50 => ?_)
        · refine lv_iconst (v := 0) hx hb d_mo_degree_57 (by decide) ?_
          refine g_zast S hE.1 hG hc635 2 rfl (vp_in_nI (by omega) (by omega)) d_mo_degree_58 (fun H locs hG => ?_)
          rw [nI_clamp (show k < 2 ^ 31 by omega)] at hG
          have hG : gS (gA G s.heap.size) s.heap Z.1 cls (gup Gx u6 (.inl (Z.2 2, 16, .inl (upd tq k 0)))) H locs := hG
          generalize eG58 : gup Gx u6 (.inl (Z.2 2, 16, .inl (upd tq k 0))) = G58 at hG
          have f58_mo : G58 mo = some (.inr (4, [.int 0, .int (nI C), .int (nI E), .ref u1, .ref u2, .ref u3, .ref u4, .ref u5, .int (nI M), .int (nI N), .ref u6, .int fl, .ref u7])) := by rw [← eG58]; exact gup_keep hc635 hmo35 (by simp)
          have f58_u1 : G58 u1 = some (.inl (Z.2 1, 768, .inl cf)) := by rw [← eG58]; exact gup_keep hc635 hc135 (by simp)
          have f58_u2 : G58 u2 = some (.inl (Z.2 2, 768, .inl mf)) := by rw [← eG58]; exact gup_keep hc635 hc235 (by simp)
          have f58_u3 : G58 u3 = some (.inl (Z.2 2, 744, .inl ff)) := by rw [← eG58]; exact gup_keep hc635 hc335 (by simp)
          have f58_u4 : G58 u4 = some (.inl (Z.2 2, 24, .inl gf)) := by rw [← eG58]; exact gup_keep hc635 hc435 (by simp)
          have f58_u5 : G58 u5 = some (.inl (Z.2 1, 24, .inl sf)) := by rw [← eG58]; exact gup_keep hc635 hc535 (by simp)
          have f58_u7 : G58 u7 = some (.inl (Z.2 1, 16, .inl bf)) := by rw [← eG58]; exact (gup_ne _ _ (Ne.symm n67)).trans hc735
          have f58 : G58 u6 = some (.inl (Z.2 2, 16, .inl (upd tq k 0))) := by rw [← eG58]; exact gup_self _ _ _
          have hK : gKe (moI mo u1 u2 u3 u4 u5 u6 u7) G G58 := by rw [← eG58]; exact hK.up (by simp [moI])
          refine lv_iinc (v := nI (k + 1)) (lv' := [(2, .int (nI (k + 1))), (0, .ref mo), (1, .int (nI N))]) hx hb d_mo_degree_59 hl (k := 2) rfl (show nI k + 1 = _ from nI_1 k) (by decide) rfl (fun ls hl => ?_)
          refine lv_goto (tgt := 35) hx hb d_mo_degree_62 (by decide) ?_
          exact ih35 ((k + 1), upd tq k 0, G58) _ _ _ ⟨⟨⟨by omega, fun j h9 => by
              by_cases e9 : j = k
              · subst e9; rw [pk_us]; simp [c50, zb]
              · rw [pk_un e9]; exact htq j (by omega)⟩, hK, ⟨f58_mo, f58_u1, f58_u2, f58_u3, f58_u4, f58_u5, f58, f58_u7, n12, n45, n67⟩⟩, hG, lv_sub hl [1, 2, 0] rfl⟩ (by first | omega | (simp only []; omega))
        · refine lv_iconst (v := 1) hx hb d_mo_degree_53 (by decide) ?_
          refine lv_goto (tgt := 58) hx hb d_mo_degree_54 (by decide) ?_
          refine g_zast S hE.1 hG hc635 2 rfl (vp_in_nI (by omega) (by omega)) d_mo_degree_58 (fun H locs hG => ?_)
          rw [nI_clamp (show k < 2 ^ 31 by omega)] at hG
          have hG : gS (gA G s.heap.size) s.heap Z.1 cls (gup Gx u6 (.inl (Z.2 2, 16, .inl (upd tq k 1)))) H locs := hG
          generalize eG58 : gup Gx u6 (.inl (Z.2 2, 16, .inl (upd tq k 1))) = G58 at hG
          have f58_mo : G58 mo = some (.inr (4, [.int 0, .int (nI C), .int (nI E), .ref u1, .ref u2, .ref u3, .ref u4, .ref u5, .int (nI M), .int (nI N), .ref u6, .int fl, .ref u7])) := by rw [← eG58]; exact gup_keep hc635 hmo35 (by simp)
          have f58_u1 : G58 u1 = some (.inl (Z.2 1, 768, .inl cf)) := by rw [← eG58]; exact gup_keep hc635 hc135 (by simp)
          have f58_u2 : G58 u2 = some (.inl (Z.2 2, 768, .inl mf)) := by rw [← eG58]; exact gup_keep hc635 hc235 (by simp)
          have f58_u3 : G58 u3 = some (.inl (Z.2 2, 744, .inl ff)) := by rw [← eG58]; exact gup_keep hc635 hc335 (by simp)
          have f58_u4 : G58 u4 = some (.inl (Z.2 2, 24, .inl gf)) := by rw [← eG58]; exact gup_keep hc635 hc435 (by simp)
          have f58_u5 : G58 u5 = some (.inl (Z.2 1, 24, .inl sf)) := by rw [← eG58]; exact gup_keep hc635 hc535 (by simp)
          have f58_u7 : G58 u7 = some (.inl (Z.2 1, 16, .inl bf)) := by rw [← eG58]; exact (gup_ne _ _ (Ne.symm n67)).trans hc735
          have f58 : G58 u6 = some (.inl (Z.2 2, 16, .inl (upd tq k 1))) := by rw [← eG58]; exact gup_self _ _ _
          have hK : gKe (moI mo u1 u2 u3 u4 u5 u6 u7) G G58 := by rw [← eG58]; exact hK.up (by simp [moI])
          refine lv_iinc (v := nI (k + 1)) (lv' := [(2, .int (nI (k + 1))), (0, .ref mo), (1, .int (nI N))]) hx hb d_mo_degree_59 hl (k := 2) rfl (show nI k + 1 = _ from nI_1 k) (by decide) rfl (fun ls hl => ?_)
          refine lv_goto (tgt := 35) hx hb d_mo_degree_62 (by decide) ?_
          exact ih35 ((k + 1), upd tq k 1, G58) _ _ _ ⟨⟨⟨by omega, fun j h9 => by
              by_cases e9 : j = k
              · subst e9; rw [pk_us]; simp [c50, zb]
              · rw [pk_un e9]; exact htq j (by omega)⟩, hK, ⟨f58_mo, f58_u1, f58_u2, f58_u3, f58_u4, f58_u5, f58, f58_u7, n12, n45, n67⟩⟩, hG, lv_sub hl [1, 2, 0] rfl⟩ (by first | omega | (simp only []; omega))
    · refine lv_iconst (v := 1) hx hb d_mo_degree_12 (by decide) ?_
      refine lv_goto (tgt := 17) hx hb d_mo_degree_13 (by decide) ?_
      refine g_put S hE.1 hG hmo rfl in_mo ty_mo tyok_mo nm_mo 0 (by decide) tw_491 (fun _ h9 => h9) rfl (ty := .int) (by decide +kernel) rfl rfl (Nat.le_of_ble_eq_true rfl) d_mo_degree_17 (fun H locs hG => ?_)
      have hG : gS (gA G s.heap.size) s.heap Z.1 cls (gup G mo (.inr (4, [.int 1, .int (nI C), .int (nI E), .ref u1, .ref u2, .ref u3, .ref u4, .ref u5, .int (nI M), .int (nI D), .ref u6, .int fl, .ref u7]))) H locs := hG
      generalize eG17 : gup G mo (.inr (4, [.int 1, .int (nI C), .int (nI E), .ref u1, .ref u2, .ref u3, .ref u4, .ref u5, .int (nI M), .int (nI D), .ref u6, .int fl, .ref u7])) = G17 at hG
      have f17_u1 : G17 u1 = some (.inl (Z.2 1, 768, .inl cf)) := by rw [← eG17]; exact gup_keep hmo hc1 (by simp)
      have f17_u2 : G17 u2 = some (.inl (Z.2 2, 768, .inl mf)) := by rw [← eG17]; exact gup_keep hmo hc2 (by simp)
      have f17_u3 : G17 u3 = some (.inl (Z.2 2, 744, .inl ff)) := by rw [← eG17]; exact gup_keep hmo hc3 (by simp)
      have f17_u4 : G17 u4 = some (.inl (Z.2 2, 24, .inl gf)) := by rw [← eG17]; exact gup_keep hmo hc4 (by simp)
      have f17_u5 : G17 u5 = some (.inl (Z.2 1, 24, .inl sf)) := by rw [← eG17]; exact gup_keep hmo hc5 (by simp)
      have f17_u6 : G17 u6 = some (.inl (Z.2 2, 16, .inl tf)) := by rw [← eG17]; exact gup_keep hmo hc6 (by simp)
      have f17_u7 : G17 u7 = some (.inl (Z.2 1, 16, .inl bf)) := by rw [← eG17]; exact gup_keep hmo hc7 (by simp)
      have f17 : G17 mo = some (.inr (4, [.int 1, .int (nI C), .int (nI E), .ref u1, .ref u2, .ref u3, .ref u4, .ref u5, .int (nI M), .int (nI D), .ref u6, .int fl, .ref u7])) := by rw [← eG17]; exact gup_self _ _ _
      have hK : gKe (moI mo u1 u2 u3 u4 u5 u6 u7) G G17 := by rw [← eG17]; exact hK.up (by simp [moI])
      refine lv_aload_n hx hb d_mo_degree_20 rfl (lv_at hl 0 rfl) ?_
      refine g_get S hE.1 hG.1 f17 rfl in_mo 0 (by decide) tw_491 (fun _ h9 => h9) rfl d_mo_degree_21 ?_
      refine lv_if_le (tgt := 28) hx hb d_mo_degree_24 (by decide) (fun c24 => absurd c24 (by decide)) (fun c24 => ?_)
      refine W.widen (k := 0) (n := 0) (Nat.le_of_ble_eq_true rfl) (Nat.le_of_ble_eq_true rfl) ?_
      exact (W.vret hx hb hr (fun t9 ht9 hW9 => ⟨⟨_, rfl, ⟨hK, Or.inl ⟨(by rintro ⟨N, h1, h2, rfl⟩; first | exact (rng16' h1 h2).1 c3 | exact c9 (rng16' h1 h2).2), ⟨_, _, _, _, _, _, _, ⟨f17, f17_u1, f17_u2, f17_u3, f17_u4, f17_u5, f17_u6, f17_u7, n12, n45, n67⟩, hR, hT, hC, hE8, hfl⟩⟩⟩, by rw [ht9]; exact hG.1, hG.2.1⟩, hG.2.2.1.F ht9⟩) hG.2.2.1.2.2 d_mo_degree_27)

set_option maxHeartbeats 600000 in
set_option maxRecDepth 100000 in
theorem c_mo_machine (l : Launch) (Z : gZ) (G : gh) (sz : Nat) (mo : Nat) {u1 u2 u3 u4 u5 u6 u7 : Nat} {th : Int32} {C E M D : Nat} {fl tp : Int32} {pt : Nat → Option Nat} {pd : Nat → Pat} (hQ : moQ Z G mo u1 u2 u3 u4 u5 u6 u7 th C E M D fl tp pt pd) (k0 b : Int32) (hb01 : b = 0 ∨ b = 1) : Met l y_mo_machine (wd_mo_machine :: Gall) ({ frames := 1, cells := 0, slots := 0, locals := 21 }) (va_Pc [.ref mo, .int k0, .int b] (gPw Z G sz)) (va_Qi (fun (r : Int32) (G9 : gh) => gKe (moI mo u1 u2 u3 u4 u5 u6 u7) G G9 ∧ (((¬ ∃ k, k < D ∧ k0 = nI k) ∧ moQ Z G9 mo u1 u2 u3 u4 u5 u6 u7 1 C E M D fl tp pt pd) ∨ (k0 = nI (D - 1) ∧ b = 0 ∧ moQ Z G9 mo u1 u2 u3 u4 u5 u6 u7 2 C E M D fl tp pt pd) ∨ (∃ k, k < D ∧ k0 = nI k ∧ ¬ (k = D - 1 ∧ b = 0) ∧ ((tapC tp (nI k) = b ∧ r = 0 ∧ moQ Z G9 mo u1 u2 u3 u4 u5 u6 u7 0 C E M D fl tp pt pd) ∨ (¬ tapC tp (nI k) = b ∧ r = 1 ∧ moQ Z G9 mo u1 u2 u3 u4 u5 u6 u7 0 C E M D fl (tp ^^^ ((1 : Int32) <<< (nI k &&& 31))) pt (fgN pt pd 24)))))) (gW Z G sz) (gA G sz)) 0 0 (gA G sz) := by
  refine Met.ofW (cc := b_mo_machine) (maxL := 3) (ret := (some .boolean)) (by decide) rfl ?_
  intro p e s m args below meth c s₁ B hml hv
  obtain ⟨rfl, hsz, hG, hE⟩ := hv
  subst hsz
  have hx := B.exec
  have hb := B.bytes
  have hr := B.returns
  have hlocks := B.notSynchronized
  have S : CallFix p m c b_mo_machine 3 s _ Gall "PackSeedsModel" := ⟨hx, hb, hml, findClass_of_methodNamed B.named, fun w hw => atoms_spec (ws := wd_mo_machine :: Gall) B.pre w (List.mem_cons_of_mem _ hw)⟩
  have hG : gS (gA G s.heap.size) s.heap Z.1 cls G s.heap [] := gS.start hG
  have hl := lv_entry ([.ref mo, .int k0, .int b]) (n := 3) (Nat.le_of_ble_eq_true rfl)
  rw [lg_entry_eq]
  generalize (lg_sl ([.ref mo, .int k0, .int b]) ++ List.replicate (3 - (lg_sl ([.ref mo, .int k0, .int b])).length) Slot.unset).toArray = ls at hl ⊢
  have hl : lv_has ls 3 [(0, .ref mo), (1, .int k0), (2, .int b)] := hl
  have hK : gKe (moI mo u1 u2 u3 u4 u5 u6 u7) G G := gKe.rf
  obtain ⟨cf, mf, ff, gf, sf, tf, bf, hP, hR, hT, hC, hE8, hfl⟩ := hQ
  have hP0 := hP
  obtain ⟨hmo, hc1, hc2, hc3, hc4, hc5, hc6, hc7, n12, n45, n67⟩ := hP
  have hM24 := hR.1
  have hD1 := hT.1
  have hD16 := hT.2.1
  refine lv_aload_n hx hb d_mo_machine_0 rfl (lv_at hl 0 rfl) ?_
  refine lv_iload_n hx hb d_mo_machine_1 rfl (lv_at hl 1 rfl) ?_
  refine lv_if_lt (tgt := 13) hx hb d_mo_machine_2 (by decide) (fun c2 => ?_) (fun c2 => ?_)
  · refine lv_iconst (v := 1) hx hb d_mo_machine_13 (by decide) ?_
    refine lv_goto (tgt := 36) hx hb d_mo_machine_14 (by decide) ?_
    refine g_put S hE.1 hG hmo rfl in_mo ty_mo tyok_mo nm_mo 0 (by decide) tw_491 (fun _ h9 => h9) rfl (ty := .int) (by decide +kernel) rfl rfl (Nat.le_of_ble_eq_true rfl) d_mo_machine_36 (fun H locs hG => ?_)
    have hG : gS (gA G s.heap.size) s.heap Z.1 cls (gup G mo (.inr (4, [.int 1, .int (nI C), .int (nI E), .ref u1, .ref u2, .ref u3, .ref u4, .ref u5, .int (nI M), .int (nI D), .ref u6, .int fl, .ref u7]))) H locs := hG
    generalize eG36 : gup G mo (.inr (4, [.int 1, .int (nI C), .int (nI E), .ref u1, .ref u2, .ref u3, .ref u4, .ref u5, .int (nI M), .int (nI D), .ref u6, .int fl, .ref u7])) = G36 at hG
    have f36_u1 : G36 u1 = some (.inl (Z.2 1, 768, .inl cf)) := by rw [← eG36]; exact gup_keep hmo hc1 (by simp)
    have f36_u2 : G36 u2 = some (.inl (Z.2 2, 768, .inl mf)) := by rw [← eG36]; exact gup_keep hmo hc2 (by simp)
    have f36_u3 : G36 u3 = some (.inl (Z.2 2, 744, .inl ff)) := by rw [← eG36]; exact gup_keep hmo hc3 (by simp)
    have f36_u4 : G36 u4 = some (.inl (Z.2 2, 24, .inl gf)) := by rw [← eG36]; exact gup_keep hmo hc4 (by simp)
    have f36_u5 : G36 u5 = some (.inl (Z.2 1, 24, .inl sf)) := by rw [← eG36]; exact gup_keep hmo hc5 (by simp)
    have f36_u6 : G36 u6 = some (.inl (Z.2 2, 16, .inl tf)) := by rw [← eG36]; exact gup_keep hmo hc6 (by simp)
    have f36_u7 : G36 u7 = some (.inl (Z.2 1, 16, .inl bf)) := by rw [← eG36]; exact gup_keep hmo hc7 (by simp)
    have f36 : G36 mo = some (.inr (4, [.int 1, .int (nI C), .int (nI E), .ref u1, .ref u2, .ref u3, .ref u4, .ref u5, .int (nI M), .int (nI D), .ref u6, .int fl, .ref u7])) := by rw [← eG36]; exact gup_self _ _ _
    have hK : gKe (moI mo u1 u2 u3 u4 u5 u6 u7) G G36 := by rw [← eG36]; exact hK.up (by simp [moI])
    refine lv_aload_n hx hb d_mo_machine_39 rfl (lv_at hl 0 rfl) ?_
    refine g_get S hE.1 hG.1 f36 rfl in_mo 0 (by decide) tw_491 (fun _ h9 => h9) rfl d_mo_machine_40 ?_
    refine lv_if_gt (tgt := 56) hx hb d_mo_machine_43 (by decide) (fun c43 => ?_) (fun c43 => absurd c43 (by decide))
    refine lv_iconst (v := 0) hx hb d_mo_machine_56 (by decide) ?_
    refine W.widen (k := 0) (n := 0) (Nat.le_of_ble_eq_true rfl) (Nat.le_of_ble_eq_true rfl) ?_
    exact (W.zret hx hb hr rfl (fun t9 ht9 hW9 => ⟨⟨_, _, rfl, ⟨hK, Or.inl ⟨(by rintro ⟨k, hk, rfl⟩; first | exact absurd c2 (nI_pos (by omega)) | exact absurd (nI_lt hk (by omega)) c10), ⟨_, _, _, _, _, _, _, ⟨f36, f36_u1, f36_u2, f36_u3, f36_u4, f36_u5, f36_u6, f36_u7, n12, n45, n67⟩, hR, hT, hC, hE8, hfl⟩⟩⟩, by rw [ht9]; exact hG.1, hG.2.1⟩, hG.2.2.1.F ht9⟩) hG.2.2.1.2.2 d_mo_machine_57)
  · refine lv_iload_n hx hb d_mo_machine_5 rfl (lv_at hl 1 rfl) ?_
    refine lv_aload_n hx hb d_mo_machine_6 rfl (lv_at hl 0 rfl) ?_
    refine g_get S hE.1 hG.1 hmo rfl in_mo 9 (by decide) tw_500 (fun _ h9 => h9) rfl d_mo_machine_7 ?_
    refine lv_icmp_lt (tgt := 17) hx hb d_mo_machine_10 (by decide) (fun c10 => ?_) (fun c10 => ?_)
    · obtain ⟨k, hk, ek⟩ := rngD (show D < 2 ^ 31 by omega) c2 c10
      subst ek
      have htk : tapC tp (nI k) = tf k := by rw [tapC_zb _ (by omega), hT.2.2.1 k (by omega)]
      refine lv_iload_n hx hb d_mo_machine_17 rfl (lv_at hl 1 rfl) ?_
      refine lv_aload_n hx hb d_mo_machine_18 rfl (lv_at hl 0 rfl) ?_
      refine g_get S hE.1 hG.1 hmo rfl in_mo 9 (by decide) tw_500 (fun _ h9 => h9) rfl d_mo_machine_19 ?_
      refine lv_iconst (v := 1) hx hb d_mo_machine_22 (by decide) ?_
      refine lv_isub hx hb d_mo_machine_23 ?_
      refine g_topi (y := nI (D - 1)) (nI_pred1 hD1) ?_
      refine g_ne (tgt := 35) hx hb d_mo_machine_24 (by decide) (by omega) (by omega) (fun c24 => ?_) (fun c24 => ?_)
      · refine lv_iconst (v := 0) hx hb d_mo_machine_35 (by decide) ?_
        refine g_put S hE.1 hG hmo rfl in_mo ty_mo tyok_mo nm_mo 0 (by decide) tw_491 (fun _ h9 => h9) rfl (ty := .int) (by decide +kernel) rfl rfl (Nat.le_of_ble_eq_true rfl) d_mo_machine_36 (fun H locs hG => ?_)
        have hG : gS (gA G s.heap.size) s.heap Z.1 cls (gup G mo (.inr (4, [.int 0, .int (nI C), .int (nI E), .ref u1, .ref u2, .ref u3, .ref u4, .ref u5, .int (nI M), .int (nI D), .ref u6, .int fl, .ref u7]))) H locs := hG
        generalize eG36 : gup G mo (.inr (4, [.int 0, .int (nI C), .int (nI E), .ref u1, .ref u2, .ref u3, .ref u4, .ref u5, .int (nI M), .int (nI D), .ref u6, .int fl, .ref u7])) = G36 at hG
        have f36_u1 : G36 u1 = some (.inl (Z.2 1, 768, .inl cf)) := by rw [← eG36]; exact gup_keep hmo hc1 (by simp)
        have f36_u2 : G36 u2 = some (.inl (Z.2 2, 768, .inl mf)) := by rw [← eG36]; exact gup_keep hmo hc2 (by simp)
        have f36_u3 : G36 u3 = some (.inl (Z.2 2, 744, .inl ff)) := by rw [← eG36]; exact gup_keep hmo hc3 (by simp)
        have f36_u4 : G36 u4 = some (.inl (Z.2 2, 24, .inl gf)) := by rw [← eG36]; exact gup_keep hmo hc4 (by simp)
        have f36_u5 : G36 u5 = some (.inl (Z.2 1, 24, .inl sf)) := by rw [← eG36]; exact gup_keep hmo hc5 (by simp)
        have f36_u6 : G36 u6 = some (.inl (Z.2 2, 16, .inl tf)) := by rw [← eG36]; exact gup_keep hmo hc6 (by simp)
        have f36_u7 : G36 u7 = some (.inl (Z.2 1, 16, .inl bf)) := by rw [← eG36]; exact gup_keep hmo hc7 (by simp)
        have f36 : G36 mo = some (.inr (4, [.int 0, .int (nI C), .int (nI E), .ref u1, .ref u2, .ref u3, .ref u4, .ref u5, .int (nI M), .int (nI D), .ref u6, .int fl, .ref u7])) := by rw [← eG36]; exact gup_self _ _ _
        have hK : gKe (moI mo u1 u2 u3 u4 u5 u6 u7) G G36 := by rw [← eG36]; exact hK.up (by simp [moI])
        refine lv_aload_n hx hb d_mo_machine_39 rfl (lv_at hl 0 rfl) ?_
        refine g_get S hE.1 hG.1 f36 rfl in_mo 0 (by decide) tw_491 (fun _ h9 => h9) rfl d_mo_machine_40 ?_
        refine lv_if_gt (tgt := 56) hx hb d_mo_machine_43 (by decide) (fun c43 => absurd c43 (by decide)) (fun c43 => ?_)
        refine lv_aload_n hx hb d_mo_machine_46 rfl (lv_at hl 0 rfl) ?_
        refine g_get S hE.1 hG.1 f36 rfl in_mo 10 (by decide) tw_501 (fun _ h9 => h9) rfl d_mo_machine_47 ?_
        refine lv_iload_n hx hb d_mo_machine_50 rfl (lv_at hl 1 rfl) ?_
        refine g_zald S hE.1 hG.1 f36_u6 2 rfl (vp_in_nI (by omega) (by omega)) d_mo_machine_51 ?_
        refine g_topi (congrArg tf (nI_clamp (show k < 2 ^ 31 by omega))) ?_
        refine lv_iload_n hx hb d_mo_machine_52 rfl (lv_at hl 2 rfl) ?_
        refine lv_icmp_ne (tgt := 58) hx hb d_mo_machine_53 (by decide) (fun c53 => ?_) (fun c53 => ?_)
        · have hvn : vp_nar .boolean b = b := by rcases hb01 with h | h <;> rw [h] <;> rfl
          refine lv_aload_n hx hb d_mo_machine_58 rfl (lv_at hl 0 rfl) ?_
          refine g_get S hE.1 hG.1 f36 rfl in_mo 10 (by decide) tw_501 (fun _ h9 => h9) rfl d_mo_machine_59 ?_
          refine lv_iload_n hx hb d_mo_machine_62 rfl (lv_at hl 1 rfl) ?_
          refine lv_iload_n hx hb d_mo_machine_63 rfl (lv_at hl 2 rfl) ?_
          refine g_zast S hE.1 hG f36_u6 2 rfl (vp_in_nI (by omega) (by omega)) d_mo_machine_64 (fun H locs hG => ?_)
          rw [nI_clamp (show k < 2 ^ 31 by omega)] at hG
          rw [hvn] at hG
          have hG : gS (gA G s.heap.size) s.heap Z.1 cls (gup G36 u6 (.inl (Z.2 2, 16, .inl (upd tf k b)))) H locs := hG
          generalize eG64 : gup G36 u6 (.inl (Z.2 2, 16, .inl (upd tf k b))) = G64 at hG
          have f64_u1 : G64 u1 = some (.inl (Z.2 1, 768, .inl cf)) := by rw [← eG64]; exact gup_keep f36_u6 f36_u1 (by simp)
          have f64_u2 : G64 u2 = some (.inl (Z.2 2, 768, .inl mf)) := by rw [← eG64]; exact gup_keep f36_u6 f36_u2 (by simp)
          have f64_u3 : G64 u3 = some (.inl (Z.2 2, 744, .inl ff)) := by rw [← eG64]; exact gup_keep f36_u6 f36_u3 (by simp)
          have f64_u4 : G64 u4 = some (.inl (Z.2 2, 24, .inl gf)) := by rw [← eG64]; exact gup_keep f36_u6 f36_u4 (by simp)
          have f64_u5 : G64 u5 = some (.inl (Z.2 1, 24, .inl sf)) := by rw [← eG64]; exact gup_keep f36_u6 f36_u5 (by simp)
          have f64_u7 : G64 u7 = some (.inl (Z.2 1, 16, .inl bf)) := by rw [← eG64]; exact (gup_ne _ _ (Ne.symm n67)).trans f36_u7
          have f64_mo : G64 mo = some (.inr (4, [.int 0, .int (nI C), .int (nI E), .ref u1, .ref u2, .ref u3, .ref u4, .ref u5, .int (nI M), .int (nI D), .ref u6, .int fl, .ref u7])) := by rw [← eG64]; exact gup_keep f36_u6 f36 (by simp)
          have f64 : G64 u6 = some (.inl (Z.2 2, 16, .inl (upd tf k b))) := by rw [← eG64]; exact gup_self _ _ _
          have hK : gKe (moI mo u1 u2 u3 u4 u5 u6 u7) G G64 := by rw [← eG64]; exact hK.up (by simp [moI])
          refine lv_aload_n hx hb d_mo_machine_65 rfl (lv_at hl 0 rfl) ?_
          refine g_wv hG (g_runV (As := []) (rest := []) S lk_mo_71 k_mo_noSeeds (c_mo_noSeeds l Z G64 H.size mo ⟨f64_mo, f64_u1, f64_u2, f64_u3, f64_u4, f64_u5, f64, f64_u7, n12, n45, n67⟩ hM24) ⟨rfl, rfl⟩ ⟨(Nat.le_of_ble_eq_true rfl), (Nat.le_of_ble_eq_true rfl)⟩ (gPwV hG.1 hE f64_mo rfl) rfl hl.1 rfl (Nat.le_of_ble_eq_true rfl) d_mo_machine_66 ⟨(Nat.le_of_ble_eq_true rfl), (Nat.le_of_ble_eq_true rfl)⟩) (fun G66 H locs h66 hG => ?_)
          obtain ⟨s9, hs9, hK66, hQ66⟩ := h66
          have hPs := hQ66
          obtain ⟨hmos, hc1s, hc2s, hc3s, hc4s, hc5s, hc6s, hc7s, -⟩ := hQ66
          have hK : gKe (moI mo u1 u2 u3 u4 u5 u6 u7) G G66 := hK.tr hK66
          refine lv_iconst (v := 1) hx hb d_mo_machine_69 (by decide) ?_
          refine W.widen (k := 0) (n := 0) (Nat.le_of_ble_eq_true rfl) (Nat.le_of_ble_eq_true rfl) ?_
          exact (W.zret hx hb hr rfl (fun t9 ht9 hW9 => ⟨⟨_, _, rfl, ⟨hK, Or.inr (Or.inr ⟨k, hk, rfl, (by first | exact fun z => c24 z.1 | exact fun z => c28 z.2), Or.inr ⟨by rw [htk]; exact c53, rfl, ⟨_, _, _, _, _, _, _, ⟨hmos, hc1s, hc2s, hc3s, hc4s, hc5s, hc6s, hc7s, n12, n45, n67⟩, hR.fg hs9, simT_tap hT hk hb01 (by rw [htk]; exact c53), hC, hE8, hfl⟩⟩⟩)⟩, by rw [ht9]; exact hG.1, hG.2.1⟩, hG.2.2.1.F ht9⟩) hG.2.2.1.2.2 d_mo_machine_70)
        · refine lv_iconst (v := 0) hx hb d_mo_machine_56 (by decide) ?_
          refine W.widen (k := 0) (n := 0) (Nat.le_of_ble_eq_true rfl) (Nat.le_of_ble_eq_true rfl) ?_
          exact (W.zret hx hb hr rfl (fun t9 ht9 hW9 => ⟨⟨_, _, rfl, ⟨hK, Or.inr (Or.inr ⟨k, hk, rfl, (by first | exact fun z => c24 z.1 | exact fun z => c28 z.2), Or.inl ⟨by rw [htk]; exact c53, rfl, ⟨_, _, _, _, _, _, _, ⟨f36, f36_u1, f36_u2, f36_u3, f36_u4, f36_u5, f36_u6, f36_u7, n12, n45, n67⟩, hR, hT, hC, hE8, hfl⟩⟩⟩)⟩, by rw [ht9]; exact hG.1, hG.2.1⟩, hG.2.2.1.F ht9⟩) hG.2.2.1.2.2 d_mo_machine_57)
      · refine lv_iload_n hx hb d_mo_machine_27 rfl (lv_at hl 2 rfl) ?_
        refine lv_if_ne (tgt := 35) hx hb d_mo_machine_28 (by decide) (fun c28 => ?_) (fun c28 => ?_)
        · refine lv_iconst (v := 0) hx hb d_mo_machine_35 (by decide) ?_
          refine g_put S hE.1 hG hmo rfl in_mo ty_mo tyok_mo nm_mo 0 (by decide) tw_491 (fun _ h9 => h9) rfl (ty := .int) (by decide +kernel) rfl rfl (Nat.le_of_ble_eq_true rfl) d_mo_machine_36 (fun H locs hG => ?_)
          have hG : gS (gA G s.heap.size) s.heap Z.1 cls (gup G mo (.inr (4, [.int 0, .int (nI C), .int (nI E), .ref u1, .ref u2, .ref u3, .ref u4, .ref u5, .int (nI M), .int (nI D), .ref u6, .int fl, .ref u7]))) H locs := hG
          generalize eG36 : gup G mo (.inr (4, [.int 0, .int (nI C), .int (nI E), .ref u1, .ref u2, .ref u3, .ref u4, .ref u5, .int (nI M), .int (nI D), .ref u6, .int fl, .ref u7])) = G36 at hG
          have f36_u1 : G36 u1 = some (.inl (Z.2 1, 768, .inl cf)) := by rw [← eG36]; exact gup_keep hmo hc1 (by simp)
          have f36_u2 : G36 u2 = some (.inl (Z.2 2, 768, .inl mf)) := by rw [← eG36]; exact gup_keep hmo hc2 (by simp)
          have f36_u3 : G36 u3 = some (.inl (Z.2 2, 744, .inl ff)) := by rw [← eG36]; exact gup_keep hmo hc3 (by simp)
          have f36_u4 : G36 u4 = some (.inl (Z.2 2, 24, .inl gf)) := by rw [← eG36]; exact gup_keep hmo hc4 (by simp)
          have f36_u5 : G36 u5 = some (.inl (Z.2 1, 24, .inl sf)) := by rw [← eG36]; exact gup_keep hmo hc5 (by simp)
          have f36_u6 : G36 u6 = some (.inl (Z.2 2, 16, .inl tf)) := by rw [← eG36]; exact gup_keep hmo hc6 (by simp)
          have f36_u7 : G36 u7 = some (.inl (Z.2 1, 16, .inl bf)) := by rw [← eG36]; exact gup_keep hmo hc7 (by simp)
          have f36 : G36 mo = some (.inr (4, [.int 0, .int (nI C), .int (nI E), .ref u1, .ref u2, .ref u3, .ref u4, .ref u5, .int (nI M), .int (nI D), .ref u6, .int fl, .ref u7])) := by rw [← eG36]; exact gup_self _ _ _
          have hK : gKe (moI mo u1 u2 u3 u4 u5 u6 u7) G G36 := by rw [← eG36]; exact hK.up (by simp [moI])
          refine lv_aload_n hx hb d_mo_machine_39 rfl (lv_at hl 0 rfl) ?_
          refine g_get S hE.1 hG.1 f36 rfl in_mo 0 (by decide) tw_491 (fun _ h9 => h9) rfl d_mo_machine_40 ?_
          refine lv_if_gt (tgt := 56) hx hb d_mo_machine_43 (by decide) (fun c43 => absurd c43 (by decide)) (fun c43 => ?_)
          refine lv_aload_n hx hb d_mo_machine_46 rfl (lv_at hl 0 rfl) ?_
          refine g_get S hE.1 hG.1 f36 rfl in_mo 10 (by decide) tw_501 (fun _ h9 => h9) rfl d_mo_machine_47 ?_
          refine lv_iload_n hx hb d_mo_machine_50 rfl (lv_at hl 1 rfl) ?_
          refine g_zald S hE.1 hG.1 f36_u6 2 rfl (vp_in_nI (by omega) (by omega)) d_mo_machine_51 ?_
          refine g_topi (congrArg tf (nI_clamp (show k < 2 ^ 31 by omega))) ?_
          refine lv_iload_n hx hb d_mo_machine_52 rfl (lv_at hl 2 rfl) ?_
          refine lv_icmp_ne (tgt := 58) hx hb d_mo_machine_53 (by decide) (fun c53 => ?_) (fun c53 => ?_)
          · have hvn : vp_nar .boolean b = b := by rcases hb01 with h | h <;> rw [h] <;> rfl
            refine lv_aload_n hx hb d_mo_machine_58 rfl (lv_at hl 0 rfl) ?_
            refine g_get S hE.1 hG.1 f36 rfl in_mo 10 (by decide) tw_501 (fun _ h9 => h9) rfl d_mo_machine_59 ?_
            refine lv_iload_n hx hb d_mo_machine_62 rfl (lv_at hl 1 rfl) ?_
            refine lv_iload_n hx hb d_mo_machine_63 rfl (lv_at hl 2 rfl) ?_
            refine g_zast S hE.1 hG f36_u6 2 rfl (vp_in_nI (by omega) (by omega)) d_mo_machine_64 (fun H locs hG => ?_)
            rw [nI_clamp (show k < 2 ^ 31 by omega)] at hG
            rw [hvn] at hG
            have hG : gS (gA G s.heap.size) s.heap Z.1 cls (gup G36 u6 (.inl (Z.2 2, 16, .inl (upd tf k b)))) H locs := hG
            generalize eG64 : gup G36 u6 (.inl (Z.2 2, 16, .inl (upd tf k b))) = G64 at hG
            have f64_u1 : G64 u1 = some (.inl (Z.2 1, 768, .inl cf)) := by rw [← eG64]; exact gup_keep f36_u6 f36_u1 (by simp)
            have f64_u2 : G64 u2 = some (.inl (Z.2 2, 768, .inl mf)) := by rw [← eG64]; exact gup_keep f36_u6 f36_u2 (by simp)
            have f64_u3 : G64 u3 = some (.inl (Z.2 2, 744, .inl ff)) := by rw [← eG64]; exact gup_keep f36_u6 f36_u3 (by simp)
            have f64_u4 : G64 u4 = some (.inl (Z.2 2, 24, .inl gf)) := by rw [← eG64]; exact gup_keep f36_u6 f36_u4 (by simp)
            have f64_u5 : G64 u5 = some (.inl (Z.2 1, 24, .inl sf)) := by rw [← eG64]; exact gup_keep f36_u6 f36_u5 (by simp)
            have f64_u7 : G64 u7 = some (.inl (Z.2 1, 16, .inl bf)) := by rw [← eG64]; exact (gup_ne _ _ (Ne.symm n67)).trans f36_u7
            have f64_mo : G64 mo = some (.inr (4, [.int 0, .int (nI C), .int (nI E), .ref u1, .ref u2, .ref u3, .ref u4, .ref u5, .int (nI M), .int (nI D), .ref u6, .int fl, .ref u7])) := by rw [← eG64]; exact gup_keep f36_u6 f36 (by simp)
            have f64 : G64 u6 = some (.inl (Z.2 2, 16, .inl (upd tf k b))) := by rw [← eG64]; exact gup_self _ _ _
            have hK : gKe (moI mo u1 u2 u3 u4 u5 u6 u7) G G64 := by rw [← eG64]; exact hK.up (by simp [moI])
            refine lv_aload_n hx hb d_mo_machine_65 rfl (lv_at hl 0 rfl) ?_
            refine g_wv hG (g_runV (As := []) (rest := []) S lk_mo_71 k_mo_noSeeds (c_mo_noSeeds l Z G64 H.size mo ⟨f64_mo, f64_u1, f64_u2, f64_u3, f64_u4, f64_u5, f64, f64_u7, n12, n45, n67⟩ hM24) ⟨rfl, rfl⟩ ⟨(Nat.le_of_ble_eq_true rfl), (Nat.le_of_ble_eq_true rfl)⟩ (gPwV hG.1 hE f64_mo rfl) rfl hl.1 rfl (Nat.le_of_ble_eq_true rfl) d_mo_machine_66 ⟨(Nat.le_of_ble_eq_true rfl), (Nat.le_of_ble_eq_true rfl)⟩) (fun G66 H locs h66 hG => ?_)
            obtain ⟨s9, hs9, hK66, hQ66⟩ := h66
            have hPs := hQ66
            obtain ⟨hmos, hc1s, hc2s, hc3s, hc4s, hc5s, hc6s, hc7s, -⟩ := hQ66
            have hK : gKe (moI mo u1 u2 u3 u4 u5 u6 u7) G G66 := hK.tr hK66
            refine lv_iconst (v := 1) hx hb d_mo_machine_69 (by decide) ?_
            refine W.widen (k := 0) (n := 0) (Nat.le_of_ble_eq_true rfl) (Nat.le_of_ble_eq_true rfl) ?_
            exact (W.zret hx hb hr rfl (fun t9 ht9 hW9 => ⟨⟨_, _, rfl, ⟨hK, Or.inr (Or.inr ⟨k, hk, rfl, (by first | exact fun z => c24 z.1 | exact fun z => c28 z.2), Or.inr ⟨by rw [htk]; exact c53, rfl, ⟨_, _, _, _, _, _, _, ⟨hmos, hc1s, hc2s, hc3s, hc4s, hc5s, hc6s, hc7s, n12, n45, n67⟩, hR.fg hs9, simT_tap hT hk hb01 (by rw [htk]; exact c53), hC, hE8, hfl⟩⟩⟩)⟩, by rw [ht9]; exact hG.1, hG.2.1⟩, hG.2.2.1.F ht9⟩) hG.2.2.1.2.2 d_mo_machine_70)
          · refine lv_iconst (v := 0) hx hb d_mo_machine_56 (by decide) ?_
            refine W.widen (k := 0) (n := 0) (Nat.le_of_ble_eq_true rfl) (Nat.le_of_ble_eq_true rfl) ?_
            exact (W.zret hx hb hr rfl (fun t9 ht9 hW9 => ⟨⟨_, _, rfl, ⟨hK, Or.inr (Or.inr ⟨k, hk, rfl, (by first | exact fun z => c24 z.1 | exact fun z => c28 z.2), Or.inl ⟨by rw [htk]; exact c53, rfl, ⟨_, _, _, _, _, _, _, ⟨f36, f36_u1, f36_u2, f36_u3, f36_u4, f36_u5, f36_u6, f36_u7, n12, n45, n67⟩, hR, hT, hC, hE8, hfl⟩⟩⟩)⟩, by rw [ht9]; exact hG.1, hG.2.1⟩, hG.2.2.1.F ht9⟩) hG.2.2.1.2.2 d_mo_machine_57)
        · refine lv_iconst (v := 2) hx hb d_mo_machine_31 (by decide) ?_
          refine lv_goto (tgt := 36) hx hb d_mo_machine_32 (by decide) ?_
          refine g_put S hE.1 hG hmo rfl in_mo ty_mo tyok_mo nm_mo 0 (by decide) tw_491 (fun _ h9 => h9) rfl (ty := .int) (by decide +kernel) rfl rfl (Nat.le_of_ble_eq_true rfl) d_mo_machine_36 (fun H locs hG => ?_)
          have hG : gS (gA G s.heap.size) s.heap Z.1 cls (gup G mo (.inr (4, [.int 2, .int (nI C), .int (nI E), .ref u1, .ref u2, .ref u3, .ref u4, .ref u5, .int (nI M), .int (nI D), .ref u6, .int fl, .ref u7]))) H locs := hG
          generalize eG36 : gup G mo (.inr (4, [.int 2, .int (nI C), .int (nI E), .ref u1, .ref u2, .ref u3, .ref u4, .ref u5, .int (nI M), .int (nI D), .ref u6, .int fl, .ref u7])) = G36 at hG
          have f36_u1 : G36 u1 = some (.inl (Z.2 1, 768, .inl cf)) := by rw [← eG36]; exact gup_keep hmo hc1 (by simp)
          have f36_u2 : G36 u2 = some (.inl (Z.2 2, 768, .inl mf)) := by rw [← eG36]; exact gup_keep hmo hc2 (by simp)
          have f36_u3 : G36 u3 = some (.inl (Z.2 2, 744, .inl ff)) := by rw [← eG36]; exact gup_keep hmo hc3 (by simp)
          have f36_u4 : G36 u4 = some (.inl (Z.2 2, 24, .inl gf)) := by rw [← eG36]; exact gup_keep hmo hc4 (by simp)
          have f36_u5 : G36 u5 = some (.inl (Z.2 1, 24, .inl sf)) := by rw [← eG36]; exact gup_keep hmo hc5 (by simp)
          have f36_u6 : G36 u6 = some (.inl (Z.2 2, 16, .inl tf)) := by rw [← eG36]; exact gup_keep hmo hc6 (by simp)
          have f36_u7 : G36 u7 = some (.inl (Z.2 1, 16, .inl bf)) := by rw [← eG36]; exact gup_keep hmo hc7 (by simp)
          have f36 : G36 mo = some (.inr (4, [.int 2, .int (nI C), .int (nI E), .ref u1, .ref u2, .ref u3, .ref u4, .ref u5, .int (nI M), .int (nI D), .ref u6, .int fl, .ref u7])) := by rw [← eG36]; exact gup_self _ _ _
          have hK : gKe (moI mo u1 u2 u3 u4 u5 u6 u7) G G36 := by rw [← eG36]; exact hK.up (by simp [moI])
          refine lv_aload_n hx hb d_mo_machine_39 rfl (lv_at hl 0 rfl) ?_
          refine g_get S hE.1 hG.1 f36 rfl in_mo 0 (by decide) tw_491 (fun _ h9 => h9) rfl d_mo_machine_40 ?_
          refine lv_if_gt (tgt := 56) hx hb d_mo_machine_43 (by decide) (fun c43 => ?_) (fun c43 => absurd c43 (by decide))
          refine lv_iconst (v := 0) hx hb d_mo_machine_56 (by decide) ?_
          refine W.widen (k := 0) (n := 0) (Nat.le_of_ble_eq_true rfl) (Nat.le_of_ble_eq_true rfl) ?_
          exact (W.zret hx hb hr rfl (fun t9 ht9 hW9 => ⟨⟨_, _, rfl, ⟨hK, Or.inr (Or.inl ⟨by rw [c24], c28, ⟨_, _, _, _, _, _, _, ⟨f36, f36_u1, f36_u2, f36_u3, f36_u4, f36_u5, f36_u6, f36_u7, n12, n45, n67⟩, hR, hT, hC, hE8, hfl⟩⟩)⟩, by rw [ht9]; exact hG.1, hG.2.1⟩, hG.2.2.1.F ht9⟩) hG.2.2.1.2.2 d_mo_machine_57)
    · refine lv_iconst (v := 1) hx hb d_mo_machine_13 (by decide) ?_
      refine lv_goto (tgt := 36) hx hb d_mo_machine_14 (by decide) ?_
      refine g_put S hE.1 hG hmo rfl in_mo ty_mo tyok_mo nm_mo 0 (by decide) tw_491 (fun _ h9 => h9) rfl (ty := .int) (by decide +kernel) rfl rfl (Nat.le_of_ble_eq_true rfl) d_mo_machine_36 (fun H locs hG => ?_)
      have hG : gS (gA G s.heap.size) s.heap Z.1 cls (gup G mo (.inr (4, [.int 1, .int (nI C), .int (nI E), .ref u1, .ref u2, .ref u3, .ref u4, .ref u5, .int (nI M), .int (nI D), .ref u6, .int fl, .ref u7]))) H locs := hG
      generalize eG36 : gup G mo (.inr (4, [.int 1, .int (nI C), .int (nI E), .ref u1, .ref u2, .ref u3, .ref u4, .ref u5, .int (nI M), .int (nI D), .ref u6, .int fl, .ref u7])) = G36 at hG
      have f36_u1 : G36 u1 = some (.inl (Z.2 1, 768, .inl cf)) := by rw [← eG36]; exact gup_keep hmo hc1 (by simp)
      have f36_u2 : G36 u2 = some (.inl (Z.2 2, 768, .inl mf)) := by rw [← eG36]; exact gup_keep hmo hc2 (by simp)
      have f36_u3 : G36 u3 = some (.inl (Z.2 2, 744, .inl ff)) := by rw [← eG36]; exact gup_keep hmo hc3 (by simp)
      have f36_u4 : G36 u4 = some (.inl (Z.2 2, 24, .inl gf)) := by rw [← eG36]; exact gup_keep hmo hc4 (by simp)
      have f36_u5 : G36 u5 = some (.inl (Z.2 1, 24, .inl sf)) := by rw [← eG36]; exact gup_keep hmo hc5 (by simp)
      have f36_u6 : G36 u6 = some (.inl (Z.2 2, 16, .inl tf)) := by rw [← eG36]; exact gup_keep hmo hc6 (by simp)
      have f36_u7 : G36 u7 = some (.inl (Z.2 1, 16, .inl bf)) := by rw [← eG36]; exact gup_keep hmo hc7 (by simp)
      have f36 : G36 mo = some (.inr (4, [.int 1, .int (nI C), .int (nI E), .ref u1, .ref u2, .ref u3, .ref u4, .ref u5, .int (nI M), .int (nI D), .ref u6, .int fl, .ref u7])) := by rw [← eG36]; exact gup_self _ _ _
      have hK : gKe (moI mo u1 u2 u3 u4 u5 u6 u7) G G36 := by rw [← eG36]; exact hK.up (by simp [moI])
      refine lv_aload_n hx hb d_mo_machine_39 rfl (lv_at hl 0 rfl) ?_
      refine g_get S hE.1 hG.1 f36 rfl in_mo 0 (by decide) tw_491 (fun _ h9 => h9) rfl d_mo_machine_40 ?_
      refine lv_if_gt (tgt := 56) hx hb d_mo_machine_43 (by decide) (fun c43 => ?_) (fun c43 => absurd c43 (by decide))
      refine lv_iconst (v := 0) hx hb d_mo_machine_56 (by decide) ?_
      refine W.widen (k := 0) (n := 0) (Nat.le_of_ble_eq_true rfl) (Nat.le_of_ble_eq_true rfl) ?_
      exact (W.zret hx hb hr rfl (fun t9 ht9 hW9 => ⟨⟨_, _, rfl, ⟨hK, Or.inl ⟨(by rintro ⟨k, hk, rfl⟩; first | exact absurd c2 (nI_pos (by omega)) | exact absurd (nI_lt hk (by omega)) c10), ⟨_, _, _, _, _, _, _, ⟨f36, f36_u1, f36_u2, f36_u3, f36_u4, f36_u5, f36_u6, f36_u7, n12, n45, n67⟩, hR, hT, hC, hE8, hfl⟩⟩⟩, by rw [ht9]; exact hG.1, hG.2.1⟩, hG.2.2.1.F ht9⟩) hG.2.2.1.2.2 d_mo_machine_57)

set_option maxHeartbeats 600000 in
set_option maxRecDepth 100000 in
theorem c_mo_seedOf (l : Launch) (Z : gZ) (G : gh) (sz : Nat) (mo : Nat) {u1 u2 u3 u4 u5 u6 u7 : Nat} {th : Int32} {C E M D : Nat} {fl tp : Int32} {pt : Nat → Option Nat} {pd : Nat → Pat} (hQ : moQ Z G mo u1 u2 u3 u4 u5 u6 u7 th C E M D fl tp pt pd) (n : Int32) : Met l y_mo_seedOf (wd_mo_seedOf :: Gall) ({ frames := 1, cells := 0, slots := 0, locals := 21 }) (va_Pc [.ref mo, .int n] (gPw Z G sz)) (va_Qi (fun (r : Int32) (G9 : gh) => gKe (moI mo u1 u2 u3 u4 u5 u6 u7) G G9 ∧ (((∀ j, ¬ okP pt pd n j) ∧ moQ Z G9 mo u1 u2 u3 u4 u5 u6 u7 1 C E M D fl tp pt pd) ∨ (∃ j, okP pt pd n j ∧ moQ Z G9 mo u1 u2 u3 u4 u5 u6 u7 0 C E M D fl tp pt pd ∧ r = psd (pd j)))) (gW Z G sz) (gA G sz)) 0 0 (gA G sz) := by
  refine Met.ofW (cc := b_mo_seedOf) (maxL := 2) (ret := (some .int)) (by decide) rfl ?_
  intro p e s m args below meth c s₁ B hml hv
  obtain ⟨rfl, hsz, hG, hE⟩ := hv
  subst hsz
  have hx := B.exec
  have hb := B.bytes
  have hr := B.returns
  have hlocks := B.notSynchronized
  have S : CallFix p m c b_mo_seedOf 2 s _ Gall "PackSeedsModel" := ⟨hx, hb, hml, findClass_of_methodNamed B.named, fun w hw => atoms_spec (ws := wd_mo_seedOf :: Gall) B.pre w (List.mem_cons_of_mem _ hw)⟩
  have hG : gS (gA G s.heap.size) s.heap Z.1 cls G s.heap [] := gS.start hG
  have hl := lv_entry ([.ref mo, .int n]) (n := 2) (Nat.le_of_ble_eq_true rfl)
  rw [lg_entry_eq]
  generalize (lg_sl ([.ref mo, .int n]) ++ List.replicate (2 - (lg_sl ([.ref mo, .int n])).length) Slot.unset).toArray = ls at hl ⊢
  have hl : lv_has ls 2 [(0, .ref mo), (1, .int n)] := hl
  have hK : gKe (moI mo u1 u2 u3 u4 u5 u6 u7) G G := gKe.rf
  obtain ⟨cf, mf, ff, gf, sf, tf, bf, hP, hR, hT, hC, hE8, hfl⟩ := hQ
  have hP0 := hP
  obtain ⟨hmo, hc1, hc2, hc3, hc4, hc5, hc6, hc7, n12, n45, n67⟩ := hP
  have hM24 := hR.1
  have hD1 := hT.1
  have hD16 := hT.2.1
  refine lv_aload_n hx hb d_mo_seedOf_0 rfl (lv_at hl 0 rfl) ?_
  refine lv_aload_n hx hb d_mo_seedOf_1 rfl (lv_at hl 0 rfl) ?_
  refine lv_iload_n hx hb d_mo_seedOf_2 rfl (lv_at hl 1 rfl) ?_
  refine g_reti (g_runV (As := [.int n]) (rest := [.ref mo]) S lk_mo_48 k_mo_is (c_mo_is l Z G mo hP0 hR n) ⟨rfl, rfl⟩ ⟨Nat.le_of_ble_eq_true rfl, Nat.le_of_ble_eq_true rfl⟩ (gPreV hG.1 hE hmo rfl) rfl hl.1 rfl (Nat.le_of_ble_eq_true rfl) d_mo_seedOf_3 ⟨Nat.le_of_ble_eq_true rfl, Nat.le_of_ble_eq_true rfl⟩) (fun r3 h3 => ?_)
  refine lv_if_eq (tgt := 13) hx hb d_mo_seedOf_6 (by decide) (fun c6 => ?_) (fun c6 => ?_)
  · refine lv_iconst (v := 1) hx hb d_mo_seedOf_13 (by decide) ?_
    refine g_put S hE.1 hG hmo rfl in_mo ty_mo tyok_mo nm_mo 0 (by decide) tw_491 (fun _ h9 => h9) rfl (ty := .int) (by decide +kernel) rfl rfl (Nat.le_of_ble_eq_true rfl) d_mo_seedOf_14 (fun H locs hG => ?_)
    have hG : gS (gA G s.heap.size) s.heap Z.1 cls (gup G mo (.inr (4, [.int 1, .int (nI C), .int (nI E), .ref u1, .ref u2, .ref u3, .ref u4, .ref u5, .int (nI M), .int (nI D), .ref u6, .int fl, .ref u7]))) H locs := hG
    generalize eG14 : gup G mo (.inr (4, [.int 1, .int (nI C), .int (nI E), .ref u1, .ref u2, .ref u3, .ref u4, .ref u5, .int (nI M), .int (nI D), .ref u6, .int fl, .ref u7])) = G14 at hG
    have f14_u1 : G14 u1 = some (.inl (Z.2 1, 768, .inl cf)) := by rw [← eG14]; exact gup_keep hmo hc1 (by simp)
    have f14_u2 : G14 u2 = some (.inl (Z.2 2, 768, .inl mf)) := by rw [← eG14]; exact gup_keep hmo hc2 (by simp)
    have f14_u3 : G14 u3 = some (.inl (Z.2 2, 744, .inl ff)) := by rw [← eG14]; exact gup_keep hmo hc3 (by simp)
    have f14_u4 : G14 u4 = some (.inl (Z.2 2, 24, .inl gf)) := by rw [← eG14]; exact gup_keep hmo hc4 (by simp)
    have f14_u5 : G14 u5 = some (.inl (Z.2 1, 24, .inl sf)) := by rw [← eG14]; exact gup_keep hmo hc5 (by simp)
    have f14_u6 : G14 u6 = some (.inl (Z.2 2, 16, .inl tf)) := by rw [← eG14]; exact gup_keep hmo hc6 (by simp)
    have f14_u7 : G14 u7 = some (.inl (Z.2 1, 16, .inl bf)) := by rw [← eG14]; exact gup_keep hmo hc7 (by simp)
    have f14 : G14 mo = some (.inr (4, [.int 1, .int (nI C), .int (nI E), .ref u1, .ref u2, .ref u3, .ref u4, .ref u5, .int (nI M), .int (nI D), .ref u6, .int fl, .ref u7])) := by rw [← eG14]; exact gup_self _ _ _
    have hK : gKe (moI mo u1 u2 u3 u4 u5 u6 u7) G G14 := by rw [← eG14]; exact hK.up (by simp [moI])
    refine lv_aload_n hx hb d_mo_seedOf_17 rfl (lv_at hl 0 rfl) ?_
    refine g_get S hE.1 hG.1 f14 rfl in_mo 0 (by decide) tw_491 (fun _ h9 => h9) rfl d_mo_seedOf_18 ?_
    refine lv_if_le (tgt := 28) hx hb d_mo_seedOf_21 (by decide) (fun c21 => absurd c21 (by decide)) (fun c21 => ?_)
    refine lv_iconst (v := 0) hx hb d_mo_seedOf_24 (by decide) ?_
    refine lv_goto (tgt := 34) hx hb d_mo_seedOf_25 (by decide) ?_
    refine W.widen (k := 0) (n := 0) (Nat.le_of_ble_eq_true rfl) (Nat.le_of_ble_eq_true rfl) ?_
    exact (W.iret hx hb hr (fun t9 ht9 hW9 => ⟨⟨_, _, rfl, ⟨hK, Or.inl ⟨isNo h3 c6, ⟨_, _, _, _, _, _, _, ⟨f14, f14_u1, f14_u2, f14_u3, f14_u4, f14_u5, f14_u6, f14_u7, n12, n45, n67⟩, hR, hT, hC, hE8, hfl⟩⟩⟩, by rw [ht9]; exact hG.1, hG.2.1⟩, hG.2.2.1.F ht9⟩) hG.2.2.1.2.2 d_mo_seedOf_34)
  · refine lv_iconst (v := 0) hx hb d_mo_seedOf_9 (by decide) ?_
    refine lv_goto (tgt := 14) hx hb d_mo_seedOf_10 (by decide) ?_
    refine g_put S hE.1 hG hmo rfl in_mo ty_mo tyok_mo nm_mo 0 (by decide) tw_491 (fun _ h9 => h9) rfl (ty := .int) (by decide +kernel) rfl rfl (Nat.le_of_ble_eq_true rfl) d_mo_seedOf_14 (fun H locs hG => ?_)
    have hG : gS (gA G s.heap.size) s.heap Z.1 cls (gup G mo (.inr (4, [.int 0, .int (nI C), .int (nI E), .ref u1, .ref u2, .ref u3, .ref u4, .ref u5, .int (nI M), .int (nI D), .ref u6, .int fl, .ref u7]))) H locs := hG
    generalize eG14 : gup G mo (.inr (4, [.int 0, .int (nI C), .int (nI E), .ref u1, .ref u2, .ref u3, .ref u4, .ref u5, .int (nI M), .int (nI D), .ref u6, .int fl, .ref u7])) = G14 at hG
    have f14_u1 : G14 u1 = some (.inl (Z.2 1, 768, .inl cf)) := by rw [← eG14]; exact gup_keep hmo hc1 (by simp)
    have f14_u2 : G14 u2 = some (.inl (Z.2 2, 768, .inl mf)) := by rw [← eG14]; exact gup_keep hmo hc2 (by simp)
    have f14_u3 : G14 u3 = some (.inl (Z.2 2, 744, .inl ff)) := by rw [← eG14]; exact gup_keep hmo hc3 (by simp)
    have f14_u4 : G14 u4 = some (.inl (Z.2 2, 24, .inl gf)) := by rw [← eG14]; exact gup_keep hmo hc4 (by simp)
    have f14_u5 : G14 u5 = some (.inl (Z.2 1, 24, .inl sf)) := by rw [← eG14]; exact gup_keep hmo hc5 (by simp)
    have f14_u6 : G14 u6 = some (.inl (Z.2 2, 16, .inl tf)) := by rw [← eG14]; exact gup_keep hmo hc6 (by simp)
    have f14_u7 : G14 u7 = some (.inl (Z.2 1, 16, .inl bf)) := by rw [← eG14]; exact gup_keep hmo hc7 (by simp)
    have f14 : G14 mo = some (.inr (4, [.int 0, .int (nI C), .int (nI E), .ref u1, .ref u2, .ref u3, .ref u4, .ref u5, .int (nI M), .int (nI D), .ref u6, .int fl, .ref u7])) := by rw [← eG14]; exact gup_self _ _ _
    have hK : gKe (moI mo u1 u2 u3 u4 u5 u6 u7) G G14 := by rw [← eG14]; exact hK.up (by simp [moI])
    refine lv_aload_n hx hb d_mo_seedOf_17 rfl (lv_at hl 0 rfl) ?_
    refine g_get S hE.1 hG.1 f14 rfl in_mo 0 (by decide) tw_491 (fun _ h9 => h9) rfl d_mo_seedOf_18 ?_
    refine lv_if_le (tgt := 28) hx hb d_mo_seedOf_21 (by decide) (fun c21 => ?_) (fun c21 => absurd c21 (by decide))
    obtain ⟨j, hj⟩ := isOk h3 c6
    obtain ⟨ej, hjM, hgj⟩ := hR.ok.mp hj
    have hj0 := hj
    subst ej
    refine lv_aload_n hx hb d_mo_seedOf_28 rfl (lv_at hl 0 rfl) ?_
    refine g_get S hE.1 hG.1 f14 rfl in_mo 7 (by decide) tw_498 (fun _ h9 => h9) rfl d_mo_seedOf_29 ?_
    refine lv_iload_n hx hb d_mo_seedOf_32 rfl (lv_at hl 1 rfl) ?_
    refine g_iald S hE.1 hG.1 f14_u5 1 rfl (vp_in_nI (by omega) (by omega)) d_mo_seedOf_33 ?_
    refine g_topi (congrArg sf (nI_clamp (show j < 2 ^ 31 by omega))) ?_
    refine W.widen (k := 0) (n := 0) (Nat.le_of_ble_eq_true rfl) (Nat.le_of_ble_eq_true rfl) ?_
    exact (W.iret hx hb hr (fun t9 ht9 hW9 => ⟨⟨_, _, rfl, ⟨hK, Or.inr ⟨j, hj0, ⟨_, _, _, _, _, _, _, ⟨f14, f14_u1, f14_u2, f14_u3, f14_u4, f14_u5, f14_u6, f14_u7, n12, n45, n67⟩, hR, hT, hC, hE8, hfl⟩, (hR.2.2.2.2.1 j hjM hgj).1⟩⟩, by rw [ht9]; exact hG.1, hG.2.1⟩, hG.2.2.1.F ht9⟩) hG.2.2.1.2.2 d_mo_seedOf_34)

set_option maxHeartbeats 600000 in
set_option maxRecDepth 100000 in
theorem c_mo_bit (l : Launch) (Z : gZ) (G : gh) (sz : Nat) (mo : Nat) {u1 u2 u3 u4 u5 u6 u7 : Nat} {th : Int32} {C E M D : Nat} {fl tp : Int32} {pt : Nat → Option Nat} {pd : Nat → Pat} (hQ : moQ Z G mo u1 u2 u3 u4 u5 u6 u7 th C E M D fl tp pt pd) (n c0 e0 : Int32) : Met l y_mo_bit (wd_mo_bit :: Gall) ({ frames := 3, cells := 0, slots := 0, locals := 73 }) (va_Pc [.ref mo, .int n, .int c0, .int e0] (gPw Z G sz)) (va_Qi (fun (r : Int32) (G9 : gh) => gKe (moI mo u1 u2 u3 u4 u5 u6 u7) G G9 ∧ ((((∀ j, ¬ okP pt pd n j) ∨ (¬ ∃ k j, k < C ∧ j < E ∧ c0 = nI k ∧ e0 = nI j)) ∧ moQ Z G9 mo u1 u2 u3 u4 u5 u6 u7 1 C E M D fl tp pt pd) ∨ (∃ j k q, okP pt pd n j ∧ k < C ∧ q < E ∧ c0 = nI k ∧ e0 = nI q ∧ moQ Z G9 mo u1 u2 u3 u4 u5 u6 u7 0 C E M D fl tp pt pd ∧ r = if (bitsC (nI D) tp fl C E (pd j)) &&& plC (nI k) (nI q) = 0 then 0 else 1))) (gW Z G sz) (gA G sz)) 0 0 (gA G sz) := by
  refine Met.ofW (cc := b_mo_bit) (maxL := 4) (ret := (some .int)) (by decide) rfl ?_
  intro p e s m args below meth c s₁ B hml hv
  obtain ⟨rfl, hsz, hG, hE⟩ := hv
  subst hsz
  have hx := B.exec
  have hb := B.bytes
  have hr := B.returns
  have hlocks := B.notSynchronized
  have S : CallFix p m c b_mo_bit 4 s _ Gall "PackSeedsModel" := ⟨hx, hb, hml, findClass_of_methodNamed B.named, fun w hw => atoms_spec (ws := wd_mo_bit :: Gall) B.pre w (List.mem_cons_of_mem _ hw)⟩
  have hG : gS (gA G s.heap.size) s.heap Z.1 cls G s.heap [] := gS.start hG
  have hl := lv_entry ([.ref mo, .int n, .int c0, .int e0]) (n := 4) (Nat.le_of_ble_eq_true rfl)
  rw [lg_entry_eq]
  generalize (lg_sl ([.ref mo, .int n, .int c0, .int e0]) ++ List.replicate (4 - (lg_sl ([.ref mo, .int n, .int c0, .int e0])).length) Slot.unset).toArray = ls at hl ⊢
  have hl : lv_has ls 4 [(0, .ref mo), (1, .int n), (2, .int c0), (3, .int e0)] := hl
  have hK : gKe (moI mo u1 u2 u3 u4 u5 u6 u7) G G := gKe.rf
  obtain ⟨cf, mf, ff, gf, sf, tf, bf, hP, hR, hT, hC, hE8, hfl⟩ := hQ
  have hP0 := hP
  obtain ⟨hmo, hc1, hc2, hc3, hc4, hc5, hc6, hc7, n12, n45, n67⟩ := hP
  have hM24 := hR.1
  have hD1 := hT.1
  have hD16 := hT.2.1
  refine lv_aload_n hx hb d_mo_bit_0 rfl (lv_at hl 0 rfl) ?_
  refine lv_aload_n hx hb d_mo_bit_1 rfl (lv_at hl 0 rfl) ?_
  refine lv_iload_n hx hb d_mo_bit_2 rfl (lv_at hl 1 rfl) ?_
  refine g_reti (g_runV (As := [.int n]) (rest := [.ref mo]) S lk_mo_48 k_mo_is (c_mo_is l Z G mo hP0 hR n) ⟨rfl, rfl⟩ ⟨Nat.le_of_ble_eq_true rfl, Nat.le_of_ble_eq_true rfl⟩ (gPreV hG.1 hE hmo rfl) rfl hl.1 rfl (Nat.le_of_ble_eq_true rfl) d_mo_bit_3 ⟨Nat.le_of_ble_eq_true rfl, Nat.le_of_ble_eq_true rfl⟩) (fun r3 h3 => ?_)
  refine lv_if_eq (tgt := 22) hx hb d_mo_bit_6 (by decide) (fun c6 => ?_) (fun c6 => ?_)
  · refine lv_iconst (v := 1) hx hb d_mo_bit_22 (by decide) ?_
    refine g_put S hE.1 hG hmo rfl in_mo ty_mo tyok_mo nm_mo 0 (by decide) tw_491 (fun _ h9 => h9) rfl (ty := .int) (by decide +kernel) rfl rfl (Nat.le_of_ble_eq_true rfl) d_mo_bit_23 (fun H locs hG => ?_)
    have hG : gS (gA G s.heap.size) s.heap Z.1 cls (gup G mo (.inr (4, [.int 1, .int (nI C), .int (nI E), .ref u1, .ref u2, .ref u3, .ref u4, .ref u5, .int (nI M), .int (nI D), .ref u6, .int fl, .ref u7]))) H locs := hG
    generalize eG23 : gup G mo (.inr (4, [.int 1, .int (nI C), .int (nI E), .ref u1, .ref u2, .ref u3, .ref u4, .ref u5, .int (nI M), .int (nI D), .ref u6, .int fl, .ref u7])) = G23 at hG
    have f23_u1 : G23 u1 = some (.inl (Z.2 1, 768, .inl cf)) := by rw [← eG23]; exact gup_keep hmo hc1 (by simp)
    have f23_u2 : G23 u2 = some (.inl (Z.2 2, 768, .inl mf)) := by rw [← eG23]; exact gup_keep hmo hc2 (by simp)
    have f23_u3 : G23 u3 = some (.inl (Z.2 2, 744, .inl ff)) := by rw [← eG23]; exact gup_keep hmo hc3 (by simp)
    have f23_u4 : G23 u4 = some (.inl (Z.2 2, 24, .inl gf)) := by rw [← eG23]; exact gup_keep hmo hc4 (by simp)
    have f23_u5 : G23 u5 = some (.inl (Z.2 1, 24, .inl sf)) := by rw [← eG23]; exact gup_keep hmo hc5 (by simp)
    have f23_u6 : G23 u6 = some (.inl (Z.2 2, 16, .inl tf)) := by rw [← eG23]; exact gup_keep hmo hc6 (by simp)
    have f23_u7 : G23 u7 = some (.inl (Z.2 1, 16, .inl bf)) := by rw [← eG23]; exact gup_keep hmo hc7 (by simp)
    have f23 : G23 mo = some (.inr (4, [.int 1, .int (nI C), .int (nI E), .ref u1, .ref u2, .ref u3, .ref u4, .ref u5, .int (nI M), .int (nI D), .ref u6, .int fl, .ref u7])) := by rw [← eG23]; exact gup_self _ _ _
    have hK : gKe (moI mo u1 u2 u3 u4 u5 u6 u7) G G23 := by rw [← eG23]; exact hK.up (by simp [moI])
    refine lv_aload_n hx hb d_mo_bit_26 rfl (lv_at hl 0 rfl) ?_
    refine g_get S hE.1 hG.1 f23 rfl in_mo 0 (by decide) tw_491 (fun _ h9 => h9) rfl d_mo_bit_27 ?_
    refine lv_if_le (tgt := 37) hx hb d_mo_bit_30 (by decide) (fun c30 => absurd c30 (by decide)) (fun c30 => ?_)
    refine lv_iconst (v := 0) hx hb d_mo_bit_33 (by decide) ?_
    refine lv_goto (tgt := 44) hx hb d_mo_bit_34 (by decide) ?_
    refine W.widen (k := 0) (n := 0) (Nat.le_of_ble_eq_true rfl) (Nat.le_of_ble_eq_true rfl) ?_
    exact (W.iret hx hb hr (fun t9 ht9 hW9 => ⟨⟨_, _, rfl, ⟨hK, Or.inl ⟨(by first | exact Or.inl (isNo h3 c6) | exact Or.inr (isNo h12 c15)), ⟨_, _, _, _, _, _, _, ⟨f23, f23_u1, f23_u2, f23_u3, f23_u4, f23_u5, f23_u6, f23_u7, n12, n45, n67⟩, hR, hT, hC, hE8, hfl⟩⟩⟩, by rw [ht9]; exact hG.1, hG.2.1⟩, hG.2.2.1.F ht9⟩) hG.2.2.1.2.2 d_mo_bit_44)
  · refine lv_aload_n hx hb d_mo_bit_9 rfl (lv_at hl 0 rfl) ?_
    refine lv_iload_n hx hb d_mo_bit_10 rfl (lv_at hl 2 rfl) ?_
    refine lv_iload_n hx hb d_mo_bit_11 rfl (lv_at hl 3 rfl) ?_
    refine g_reti (g_runV (As := [.int c0, .int e0]) (rest := [.ref mo]) S lk_mo_52 k_mo_isCell (c_mo_isCell l Z G mo hP0 hC hE8 c0 e0) ⟨rfl, rfl⟩ ⟨Nat.le_of_ble_eq_true rfl, Nat.le_of_ble_eq_true rfl⟩ (gPreV hG.1 hE hmo rfl) rfl hl.1 rfl (Nat.le_of_ble_eq_true rfl) d_mo_bit_12 ⟨Nat.le_of_ble_eq_true rfl, Nat.le_of_ble_eq_true rfl⟩) (fun r12 h12 => ?_)
    refine lv_if_eq (tgt := 22) hx hb d_mo_bit_15 (by decide) (fun c15 => ?_) (fun c15 => ?_)
    · refine lv_iconst (v := 1) hx hb d_mo_bit_22 (by decide) ?_
      refine g_put S hE.1 hG hmo rfl in_mo ty_mo tyok_mo nm_mo 0 (by decide) tw_491 (fun _ h9 => h9) rfl (ty := .int) (by decide +kernel) rfl rfl (Nat.le_of_ble_eq_true rfl) d_mo_bit_23 (fun H locs hG => ?_)
      have hG : gS (gA G s.heap.size) s.heap Z.1 cls (gup G mo (.inr (4, [.int 1, .int (nI C), .int (nI E), .ref u1, .ref u2, .ref u3, .ref u4, .ref u5, .int (nI M), .int (nI D), .ref u6, .int fl, .ref u7]))) H locs := hG
      generalize eG23 : gup G mo (.inr (4, [.int 1, .int (nI C), .int (nI E), .ref u1, .ref u2, .ref u3, .ref u4, .ref u5, .int (nI M), .int (nI D), .ref u6, .int fl, .ref u7])) = G23 at hG
      have f23_u1 : G23 u1 = some (.inl (Z.2 1, 768, .inl cf)) := by rw [← eG23]; exact gup_keep hmo hc1 (by simp)
      have f23_u2 : G23 u2 = some (.inl (Z.2 2, 768, .inl mf)) := by rw [← eG23]; exact gup_keep hmo hc2 (by simp)
      have f23_u3 : G23 u3 = some (.inl (Z.2 2, 744, .inl ff)) := by rw [← eG23]; exact gup_keep hmo hc3 (by simp)
      have f23_u4 : G23 u4 = some (.inl (Z.2 2, 24, .inl gf)) := by rw [← eG23]; exact gup_keep hmo hc4 (by simp)
      have f23_u5 : G23 u5 = some (.inl (Z.2 1, 24, .inl sf)) := by rw [← eG23]; exact gup_keep hmo hc5 (by simp)
      have f23_u6 : G23 u6 = some (.inl (Z.2 2, 16, .inl tf)) := by rw [← eG23]; exact gup_keep hmo hc6 (by simp)
      have f23_u7 : G23 u7 = some (.inl (Z.2 1, 16, .inl bf)) := by rw [← eG23]; exact gup_keep hmo hc7 (by simp)
      have f23 : G23 mo = some (.inr (4, [.int 1, .int (nI C), .int (nI E), .ref u1, .ref u2, .ref u3, .ref u4, .ref u5, .int (nI M), .int (nI D), .ref u6, .int fl, .ref u7])) := by rw [← eG23]; exact gup_self _ _ _
      have hK : gKe (moI mo u1 u2 u3 u4 u5 u6 u7) G G23 := by rw [← eG23]; exact hK.up (by simp [moI])
      refine lv_aload_n hx hb d_mo_bit_26 rfl (lv_at hl 0 rfl) ?_
      refine g_get S hE.1 hG.1 f23 rfl in_mo 0 (by decide) tw_491 (fun _ h9 => h9) rfl d_mo_bit_27 ?_
      refine lv_if_le (tgt := 37) hx hb d_mo_bit_30 (by decide) (fun c30 => absurd c30 (by decide)) (fun c30 => ?_)
      refine lv_iconst (v := 0) hx hb d_mo_bit_33 (by decide) ?_
      refine lv_goto (tgt := 44) hx hb d_mo_bit_34 (by decide) ?_
      refine W.widen (k := 0) (n := 0) (Nat.le_of_ble_eq_true rfl) (Nat.le_of_ble_eq_true rfl) ?_
      exact (W.iret hx hb hr (fun t9 ht9 hW9 => ⟨⟨_, _, rfl, ⟨hK, Or.inl ⟨(by first | exact Or.inl (isNo h3 c6) | exact Or.inr (isNo h12 c15)), ⟨_, _, _, _, _, _, _, ⟨f23, f23_u1, f23_u2, f23_u3, f23_u4, f23_u5, f23_u6, f23_u7, n12, n45, n67⟩, hR, hT, hC, hE8, hfl⟩⟩⟩, by rw [ht9]; exact hG.1, hG.2.1⟩, hG.2.2.1.F ht9⟩) hG.2.2.1.2.2 d_mo_bit_44)
    · refine lv_iconst (v := 0) hx hb d_mo_bit_18 (by decide) ?_
      refine lv_goto (tgt := 23) hx hb d_mo_bit_19 (by decide) ?_
      refine g_put S hE.1 hG hmo rfl in_mo ty_mo tyok_mo nm_mo 0 (by decide) tw_491 (fun _ h9 => h9) rfl (ty := .int) (by decide +kernel) rfl rfl (Nat.le_of_ble_eq_true rfl) d_mo_bit_23 (fun H locs hG => ?_)
      have hG : gS (gA G s.heap.size) s.heap Z.1 cls (gup G mo (.inr (4, [.int 0, .int (nI C), .int (nI E), .ref u1, .ref u2, .ref u3, .ref u4, .ref u5, .int (nI M), .int (nI D), .ref u6, .int fl, .ref u7]))) H locs := hG
      generalize eG23 : gup G mo (.inr (4, [.int 0, .int (nI C), .int (nI E), .ref u1, .ref u2, .ref u3, .ref u4, .ref u5, .int (nI M), .int (nI D), .ref u6, .int fl, .ref u7])) = G23 at hG
      have f23_u1 : G23 u1 = some (.inl (Z.2 1, 768, .inl cf)) := by rw [← eG23]; exact gup_keep hmo hc1 (by simp)
      have f23_u2 : G23 u2 = some (.inl (Z.2 2, 768, .inl mf)) := by rw [← eG23]; exact gup_keep hmo hc2 (by simp)
      have f23_u3 : G23 u3 = some (.inl (Z.2 2, 744, .inl ff)) := by rw [← eG23]; exact gup_keep hmo hc3 (by simp)
      have f23_u4 : G23 u4 = some (.inl (Z.2 2, 24, .inl gf)) := by rw [← eG23]; exact gup_keep hmo hc4 (by simp)
      have f23_u5 : G23 u5 = some (.inl (Z.2 1, 24, .inl sf)) := by rw [← eG23]; exact gup_keep hmo hc5 (by simp)
      have f23_u6 : G23 u6 = some (.inl (Z.2 2, 16, .inl tf)) := by rw [← eG23]; exact gup_keep hmo hc6 (by simp)
      have f23_u7 : G23 u7 = some (.inl (Z.2 1, 16, .inl bf)) := by rw [← eG23]; exact gup_keep hmo hc7 (by simp)
      have f23 : G23 mo = some (.inr (4, [.int 0, .int (nI C), .int (nI E), .ref u1, .ref u2, .ref u3, .ref u4, .ref u5, .int (nI M), .int (nI D), .ref u6, .int fl, .ref u7])) := by rw [← eG23]; exact gup_self _ _ _
      have hK : gKe (moI mo u1 u2 u3 u4 u5 u6 u7) G G23 := by rw [← eG23]; exact hK.up (by simp [moI])
      refine lv_aload_n hx hb d_mo_bit_26 rfl (lv_at hl 0 rfl) ?_
      refine g_get S hE.1 hG.1 f23 rfl in_mo 0 (by decide) tw_491 (fun _ h9 => h9) rfl d_mo_bit_27 ?_
      refine lv_if_le (tgt := 37) hx hb d_mo_bit_30 (by decide) (fun c30 => ?_) (fun c30 => absurd c30 (by decide))
      obtain ⟨j, hj⟩ := isOk h3 c6
      obtain ⟨ej, hjM, hgj⟩ := hR.ok.mp hj
      have hj0 := hj
      subst ej
      obtain ⟨k, q, hk, hq, ek, eq⟩ := isOk h12 c15
      subst ek
      subst eq
      refine lv_aload_n hx hb d_mo_bit_37 rfl (lv_at hl 0 rfl) ?_
      refine lv_iload_n hx hb d_mo_bit_38 rfl (lv_at hl 1 rfl) ?_
      refine lv_iload_n hx hb d_mo_bit_39 rfl (lv_at hl 2 rfl) ?_
      refine lv_iload_n hx hb d_mo_bit_40 rfl (lv_at hl 3 rfl) ?_
      refine g_reti (g_runV (As := [.int (nI j), .int (nI k), .int (nI q)]) (rest := []) S lk_mo_86 k_mo_bitOf (c_mo_bitOf l Z G23 mo ⟨f23, f23_u1, f23_u2, f23_u3, f23_u4, f23_u5, f23_u6, f23_u7, n12, n45, n67⟩ hR hT hC hE8 hfl j hjM hgj k q hk hq) ⟨rfl, rfl⟩ ⟨Nat.le_of_ble_eq_true rfl, Nat.le_of_ble_eq_true rfl⟩ (gPreV hG.1 hE f23 rfl) rfl hl.1 rfl (Nat.le_of_ble_eq_true rfl) d_mo_bit_41 ⟨Nat.le_of_ble_eq_true rfl, Nat.le_of_ble_eq_true rfl⟩) (fun r41 h41 => ?_)
      refine W.widen (k := 0) (n := 0) (Nat.le_of_ble_eq_true rfl) (Nat.le_of_ble_eq_true rfl) ?_
      exact (W.iret hx hb hr (fun t9 ht9 hW9 => ⟨⟨_, _, rfl, ⟨hK, Or.inr ⟨j, k, q, hj0, hk, hq, rfl, rfl, ⟨_, _, _, _, _, _, _, ⟨f23, f23_u1, f23_u2, f23_u3, f23_u4, f23_u5, f23_u6, f23_u7, n12, n45, n67⟩, hR, hT, hC, hE8, hfl⟩, by rw [h41, and_zb _ (by omega) (by omega)]⟩⟩, by rw [ht9]; exact hG.1, hG.2.1⟩, hG.2.2.1.F ht9⟩) hG.2.2.1.2.2 d_mo_bit_44)

set_option maxHeartbeats 600000 in
set_option maxRecDepth 100000 in
theorem c_mo_fill (l : Launch) (Z : gZ) (G : gh) (sz : Nat) (mo : Nat) {u1 u2 u3 u4 u5 u6 u7 : Nat} {th : Int32} {C E M D : Nat} {fl tp : Int32} {pt : Nat → Option Nat} {pd : Nat → Pat} (hQ : moQ Z G mo u1 u2 u3 u4 u5 u6 u7 th C E M D fl tp pt pd) (v : Int32) : Met l y_mo_fill (wd_mo_fill :: Gall) ({ frames := 0, cells := 0, slots := 0, locals := 0 }) (va_Pc [.ref mo, .int v] (gPw Z G sz)) (va_Qi (fun (r : Int32) (G9 : gh) => gKe (moI mo u1 u2 u3 u4 u5 u6 u7) G G9 ∧ (((¬ ∃ k, k < 3 ∧ v = nI k) ∧ moQ Z G9 mo u1 u2 u3 u4 u5 u6 u7 1 C E M D fl tp pt pd) ∨ ((∃ k, k < 3 ∧ v = nI k) ∧ moQ Z G9 mo u1 u2 u3 u4 u5 u6 u7 0 C E M D v tp pt pd ∧ r = if v = fl then 0 else 1))) (gW Z G sz) (gA G sz)) 0 0 (gA G sz) := by
  refine Met.ofW (cc := b_mo_fill) (maxL := 3) (ret := (some .boolean)) (by decide) rfl ?_
  intro p e s m args below meth c s₁ B hml hv
  obtain ⟨rfl, hsz, hG, hE⟩ := hv
  subst hsz
  have hx := B.exec
  have hb := B.bytes
  have hr := B.returns
  have hlocks := B.notSynchronized
  have S : CallFix p m c b_mo_fill 3 s _ Gall "PackSeedsModel" := ⟨hx, hb, hml, findClass_of_methodNamed B.named, fun w hw => atoms_spec (ws := wd_mo_fill :: Gall) B.pre w (List.mem_cons_of_mem _ hw)⟩
  have hG : gS (gA G s.heap.size) s.heap Z.1 cls G s.heap [] := gS.start hG
  have hl := lv_entry ([.ref mo, .int v]) (n := 3) (Nat.le_of_ble_eq_true rfl)
  rw [lg_entry_eq]
  generalize (lg_sl ([.ref mo, .int v]) ++ List.replicate (3 - (lg_sl ([.ref mo, .int v])).length) Slot.unset).toArray = ls at hl ⊢
  have hl : lv_has ls 3 [(0, .ref mo), (1, .int v)] := hl
  have hK : gKe (moI mo u1 u2 u3 u4 u5 u6 u7) G G := gKe.rf
  obtain ⟨cf, mf, ff, gf, sf, tf, bf, hP, hR, hT, hC, hE8, hfl⟩ := hQ
  have hP0 := hP
  obtain ⟨hmo, hc1, hc2, hc3, hc4, hc5, hc6, hc7, n12, n45, n67⟩ := hP
  have hM24 := hR.1
  have hD1 := hT.1
  have hD16 := hT.2.1
  refine lv_aload_n hx hb d_mo_fill_0 rfl (lv_at hl 0 rfl) ?_
  refine lv_iload_n hx hb d_mo_fill_1 rfl (lv_at hl 1 rfl) ?_
  refine lv_if_lt (tgt := 10) hx hb d_mo_fill_2 (by decide) (fun c2 => ?_) (fun c2 => ?_)
  · refine lv_iconst (v := 1) hx hb d_mo_fill_10 (by decide) ?_
    refine lv_goto (tgt := 15) hx hb d_mo_fill_11 (by decide) ?_
    refine g_put S hE.1 hG hmo rfl in_mo ty_mo tyok_mo nm_mo 0 (by decide) tw_491 (fun _ h9 => h9) rfl (ty := .int) (by decide +kernel) rfl rfl (Nat.le_of_ble_eq_true rfl) d_mo_fill_15 (fun H locs hG => ?_)
    have hG : gS (gA G s.heap.size) s.heap Z.1 cls (gup G mo (.inr (4, [.int 1, .int (nI C), .int (nI E), .ref u1, .ref u2, .ref u3, .ref u4, .ref u5, .int (nI M), .int (nI D), .ref u6, .int fl, .ref u7]))) H locs := hG
    generalize eG15 : gup G mo (.inr (4, [.int 1, .int (nI C), .int (nI E), .ref u1, .ref u2, .ref u3, .ref u4, .ref u5, .int (nI M), .int (nI D), .ref u6, .int fl, .ref u7])) = G15 at hG
    have f15_u1 : G15 u1 = some (.inl (Z.2 1, 768, .inl cf)) := by rw [← eG15]; exact gup_keep hmo hc1 (by simp)
    have f15_u2 : G15 u2 = some (.inl (Z.2 2, 768, .inl mf)) := by rw [← eG15]; exact gup_keep hmo hc2 (by simp)
    have f15_u3 : G15 u3 = some (.inl (Z.2 2, 744, .inl ff)) := by rw [← eG15]; exact gup_keep hmo hc3 (by simp)
    have f15_u4 : G15 u4 = some (.inl (Z.2 2, 24, .inl gf)) := by rw [← eG15]; exact gup_keep hmo hc4 (by simp)
    have f15_u5 : G15 u5 = some (.inl (Z.2 1, 24, .inl sf)) := by rw [← eG15]; exact gup_keep hmo hc5 (by simp)
    have f15_u6 : G15 u6 = some (.inl (Z.2 2, 16, .inl tf)) := by rw [← eG15]; exact gup_keep hmo hc6 (by simp)
    have f15_u7 : G15 u7 = some (.inl (Z.2 1, 16, .inl bf)) := by rw [← eG15]; exact gup_keep hmo hc7 (by simp)
    have f15 : G15 mo = some (.inr (4, [.int 1, .int (nI C), .int (nI E), .ref u1, .ref u2, .ref u3, .ref u4, .ref u5, .int (nI M), .int (nI D), .ref u6, .int fl, .ref u7])) := by rw [← eG15]; exact gup_self _ _ _
    have hK : gKe (moI mo u1 u2 u3 u4 u5 u6 u7) G G15 := by rw [← eG15]; exact hK.up (by simp [moI])
    refine lv_aload_n hx hb d_mo_fill_18 rfl (lv_at hl 0 rfl) ?_
    refine g_get S hE.1 hG.1 f15 rfl in_mo 0 (by decide) tw_491 (fun _ h9 => h9) rfl d_mo_fill_19 ?_
    refine lv_if_ne (tgt := 37) hx hb d_mo_fill_22 (by decide) (fun c22 => ?_) (fun c22 => absurd c22 (by decide))
    refine lv_iconst (v := 0) hx hb d_mo_fill_37 (by decide) ?_
    refine lv_istore_n (lv' := [(2, .int 0), (0, .ref mo), (1, .int v)]) hx hb d_mo_fill_38 rfl hl (by decide) rfl (fun ls hl => ?_)
    refine lv_aload_n hx hb d_mo_fill_39 rfl (lv_at hl 1 rfl) ?_
    refine lv_aload_n hx hb d_mo_fill_40 rfl (lv_at hl 1 rfl) ?_
    refine g_get S hE.1 hG.1 f15 rfl in_mo 0 (by decide) tw_491 (fun _ h9 => h9) rfl d_mo_fill_41 ?_
    refine lv_if_le (tgt := 54) hx hb d_mo_fill_44 (by decide) (fun c44 => absurd c44 (by decide)) (fun c44 => ?_)
    refine lv_aload_n hx hb d_mo_fill_47 rfl (lv_at hl 1 rfl) ?_
    refine g_get S hE.1 hG.1 f15 rfl in_mo 11 (by decide) tw_502 (fun _ h9 => h9) rfl d_mo_fill_48 ?_
    refine lv_goto (tgt := 55) hx hb d_mo_fill_51 (by decide) ?_
    refine g_put S hE.1 hG f15 rfl in_mo ty_mo tyok_mo nm_mo 11 (by decide) tw_502 (fun _ h9 => h9) rfl (ty := .int) (by decide +kernel) rfl rfl (Nat.le_of_ble_eq_true rfl) d_mo_fill_55 (fun H locs hG => ?_)
    have hG : gS (gA G s.heap.size) s.heap Z.1 cls (gup G15 mo (.inr (4, [.int 1, .int (nI C), .int (nI E), .ref u1, .ref u2, .ref u3, .ref u4, .ref u5, .int (nI M), .int (nI D), .ref u6, .int fl, .ref u7]))) H locs := hG
    generalize eG55 : gup G15 mo (.inr (4, [.int 1, .int (nI C), .int (nI E), .ref u1, .ref u2, .ref u3, .ref u4, .ref u5, .int (nI M), .int (nI D), .ref u6, .int fl, .ref u7])) = G55 at hG
    have f55_u1 : G55 u1 = some (.inl (Z.2 1, 768, .inl cf)) := by rw [← eG55]; exact gup_keep f15 f15_u1 (by simp)
    have f55_u2 : G55 u2 = some (.inl (Z.2 2, 768, .inl mf)) := by rw [← eG55]; exact gup_keep f15 f15_u2 (by simp)
    have f55_u3 : G55 u3 = some (.inl (Z.2 2, 744, .inl ff)) := by rw [← eG55]; exact gup_keep f15 f15_u3 (by simp)
    have f55_u4 : G55 u4 = some (.inl (Z.2 2, 24, .inl gf)) := by rw [← eG55]; exact gup_keep f15 f15_u4 (by simp)
    have f55_u5 : G55 u5 = some (.inl (Z.2 1, 24, .inl sf)) := by rw [← eG55]; exact gup_keep f15 f15_u5 (by simp)
    have f55_u6 : G55 u6 = some (.inl (Z.2 2, 16, .inl tf)) := by rw [← eG55]; exact gup_keep f15 f15_u6 (by simp)
    have f55_u7 : G55 u7 = some (.inl (Z.2 1, 16, .inl bf)) := by rw [← eG55]; exact gup_keep f15 f15_u7 (by simp)
    have f55 : G55 mo = some (.inr (4, [.int 1, .int (nI C), .int (nI E), .ref u1, .ref u2, .ref u3, .ref u4, .ref u5, .int (nI M), .int (nI D), .ref u6, .int fl, .ref u7])) := by rw [← eG55]; exact gup_self _ _ _
    have hK : gKe (moI mo u1 u2 u3 u4 u5 u6 u7) G G55 := by rw [← eG55]; exact hK.up (by simp [moI])
    refine lv_iload_n hx hb d_mo_fill_58 rfl (lv_at hl 0 rfl) ?_
    refine W.widen (k := 0) (n := 0) (Nat.le_of_ble_eq_true rfl) (Nat.le_of_ble_eq_true rfl) ?_
    exact (W.zret hx hb hr rfl (fun t9 ht9 hW9 => ⟨⟨_, _, rfl, ⟨hK, Or.inl ⟨(by rintro ⟨k, hk, rfl⟩; first | exact absurd c2 (nI_pos (by omega)) | exact absurd (rng2' hk) c7), ⟨_, _, _, _, _, _, _, ⟨f55, f55_u1, f55_u2, f55_u3, f55_u4, f55_u5, f55_u6, f55_u7, n12, n45, n67⟩, hR, hT, hC, hE8, hfl⟩⟩⟩, by rw [ht9]; exact hG.1, hG.2.1⟩, hG.2.2.1.F ht9⟩) hG.2.2.1.2.2 d_mo_fill_59)
  · refine lv_iload_n hx hb d_mo_fill_5 rfl (lv_at hl 1 rfl) ?_
    refine lv_iconst (v := 2) hx hb d_mo_fill_6 (by decide) ?_
    refine lv_icmp_le (tgt := 14) hx hb d_mo_fill_7 (by decide) (fun c7 => ?_) (fun c7 => ?_)
    · refine lv_iconst (v := 0) hx hb d_mo_fill_14 (by decide) ?_
      refine g_put S hE.1 hG hmo rfl in_mo ty_mo tyok_mo nm_mo 0 (by decide) tw_491 (fun _ h9 => h9) rfl (ty := .int) (by decide +kernel) rfl rfl (Nat.le_of_ble_eq_true rfl) d_mo_fill_15 (fun H locs hG => ?_)
      have hG : gS (gA G s.heap.size) s.heap Z.1 cls (gup G mo (.inr (4, [.int 0, .int (nI C), .int (nI E), .ref u1, .ref u2, .ref u3, .ref u4, .ref u5, .int (nI M), .int (nI D), .ref u6, .int fl, .ref u7]))) H locs := hG
      generalize eG15 : gup G mo (.inr (4, [.int 0, .int (nI C), .int (nI E), .ref u1, .ref u2, .ref u3, .ref u4, .ref u5, .int (nI M), .int (nI D), .ref u6, .int fl, .ref u7])) = G15 at hG
      have f15_u1 : G15 u1 = some (.inl (Z.2 1, 768, .inl cf)) := by rw [← eG15]; exact gup_keep hmo hc1 (by simp)
      have f15_u2 : G15 u2 = some (.inl (Z.2 2, 768, .inl mf)) := by rw [← eG15]; exact gup_keep hmo hc2 (by simp)
      have f15_u3 : G15 u3 = some (.inl (Z.2 2, 744, .inl ff)) := by rw [← eG15]; exact gup_keep hmo hc3 (by simp)
      have f15_u4 : G15 u4 = some (.inl (Z.2 2, 24, .inl gf)) := by rw [← eG15]; exact gup_keep hmo hc4 (by simp)
      have f15_u5 : G15 u5 = some (.inl (Z.2 1, 24, .inl sf)) := by rw [← eG15]; exact gup_keep hmo hc5 (by simp)
      have f15_u6 : G15 u6 = some (.inl (Z.2 2, 16, .inl tf)) := by rw [← eG15]; exact gup_keep hmo hc6 (by simp)
      have f15_u7 : G15 u7 = some (.inl (Z.2 1, 16, .inl bf)) := by rw [← eG15]; exact gup_keep hmo hc7 (by simp)
      have f15 : G15 mo = some (.inr (4, [.int 0, .int (nI C), .int (nI E), .ref u1, .ref u2, .ref u3, .ref u4, .ref u5, .int (nI M), .int (nI D), .ref u6, .int fl, .ref u7])) := by rw [← eG15]; exact gup_self _ _ _
      have hK : gKe (moI mo u1 u2 u3 u4 u5 u6 u7) G G15 := by rw [← eG15]; exact hK.up (by simp [moI])
      refine lv_aload_n hx hb d_mo_fill_18 rfl (lv_at hl 0 rfl) ?_
      refine g_get S hE.1 hG.1 f15 rfl in_mo 0 (by decide) tw_491 (fun _ h9 => h9) rfl d_mo_fill_19 ?_
      refine lv_if_ne (tgt := 37) hx hb d_mo_fill_22 (by decide) (fun c22 => absurd c22 (by decide)) (fun c22 => ?_)
      refine lv_iload_n hx hb d_mo_fill_25 rfl (lv_at hl 1 rfl) ?_
      refine lv_aload_n hx hb d_mo_fill_26 rfl (lv_at hl 0 rfl) ?_
      refine g_get S hE.1 hG.1 f15 rfl in_mo 11 (by decide) tw_502 (fun _ h9 => h9) rfl d_mo_fill_27 ?_
      refine lv_icmp_eq (tgt := 37) hx hb d_mo_fill_30 (by decide) (fun c30 => ?_) (fun c30 => ?_)
      · refine lv_iconst (v := 0) hx hb d_mo_fill_37 (by decide) ?_
        refine lv_istore_n (lv' := [(2, .int 0), (0, .ref mo), (1, .int v)]) hx hb d_mo_fill_38 rfl hl (by decide) rfl (fun ls hl => ?_)
        refine lv_aload_n hx hb d_mo_fill_39 rfl (lv_at hl 1 rfl) ?_
        refine lv_aload_n hx hb d_mo_fill_40 rfl (lv_at hl 1 rfl) ?_
        refine g_get S hE.1 hG.1 f15 rfl in_mo 0 (by decide) tw_491 (fun _ h9 => h9) rfl d_mo_fill_41 ?_
        refine lv_if_le (tgt := 54) hx hb d_mo_fill_44 (by decide) (fun c44 => ?_) (fun c44 => absurd c44 (by decide))
        refine lv_iload_n hx hb d_mo_fill_54 rfl (lv_at hl 2 rfl) ?_
        refine g_put S hE.1 hG f15 rfl in_mo ty_mo tyok_mo nm_mo 11 (by decide) tw_502 (fun _ h9 => h9) rfl (ty := .int) (by decide +kernel) rfl rfl (Nat.le_of_ble_eq_true rfl) d_mo_fill_55 (fun H locs hG => ?_)
        have hG : gS (gA G s.heap.size) s.heap Z.1 cls (gup G15 mo (.inr (4, [.int 0, .int (nI C), .int (nI E), .ref u1, .ref u2, .ref u3, .ref u4, .ref u5, .int (nI M), .int (nI D), .ref u6, .int v, .ref u7]))) H locs := hG
        generalize eG55 : gup G15 mo (.inr (4, [.int 0, .int (nI C), .int (nI E), .ref u1, .ref u2, .ref u3, .ref u4, .ref u5, .int (nI M), .int (nI D), .ref u6, .int v, .ref u7])) = G55 at hG
        have f55_u1 : G55 u1 = some (.inl (Z.2 1, 768, .inl cf)) := by rw [← eG55]; exact gup_keep f15 f15_u1 (by simp)
        have f55_u2 : G55 u2 = some (.inl (Z.2 2, 768, .inl mf)) := by rw [← eG55]; exact gup_keep f15 f15_u2 (by simp)
        have f55_u3 : G55 u3 = some (.inl (Z.2 2, 744, .inl ff)) := by rw [← eG55]; exact gup_keep f15 f15_u3 (by simp)
        have f55_u4 : G55 u4 = some (.inl (Z.2 2, 24, .inl gf)) := by rw [← eG55]; exact gup_keep f15 f15_u4 (by simp)
        have f55_u5 : G55 u5 = some (.inl (Z.2 1, 24, .inl sf)) := by rw [← eG55]; exact gup_keep f15 f15_u5 (by simp)
        have f55_u6 : G55 u6 = some (.inl (Z.2 2, 16, .inl tf)) := by rw [← eG55]; exact gup_keep f15 f15_u6 (by simp)
        have f55_u7 : G55 u7 = some (.inl (Z.2 1, 16, .inl bf)) := by rw [← eG55]; exact gup_keep f15 f15_u7 (by simp)
        have f55 : G55 mo = some (.inr (4, [.int 0, .int (nI C), .int (nI E), .ref u1, .ref u2, .ref u3, .ref u4, .ref u5, .int (nI M), .int (nI D), .ref u6, .int v, .ref u7])) := by rw [← eG55]; exact gup_self _ _ _
        have hK : gKe (moI mo u1 u2 u3 u4 u5 u6 u7) G G55 := by rw [← eG55]; exact hK.up (by simp [moI])
        refine lv_iload_n hx hb d_mo_fill_58 rfl (lv_at hl 0 rfl) ?_
        refine W.widen (k := 0) (n := 0) (Nat.le_of_ble_eq_true rfl) (Nat.le_of_ble_eq_true rfl) ?_
        exact (W.zret hx hb hr rfl (fun t9 ht9 hW9 => ⟨⟨_, _, rfl, ⟨hK, Or.inr ⟨rng2 c2 c7, ⟨_, _, _, _, _, _, _, ⟨f55, f55_u1, f55_u2, f55_u3, f55_u4, f55_u5, f55_u6, f55_u7, n12, n45, n67⟩, hR, hT, hC, hE8, fl3 (rng2 c2 c7)⟩, by simp [c30]⟩⟩, by rw [ht9]; exact hG.1, hG.2.1⟩, hG.2.2.1.F ht9⟩) hG.2.2.1.2.2 d_mo_fill_59)
      · refine lv_iconst (v := 1) hx hb d_mo_fill_33 (by decide) ?_
        refine lv_goto (tgt := 38) hx hb d_mo_fill_34 (by decide) ?_
        refine lv_istore_n (lv' := [(2, .int 1), (0, .ref mo), (1, .int v)]) hx hb d_mo_fill_38 rfl hl (by decide) rfl (fun ls hl => ?_)
        refine lv_aload_n hx hb d_mo_fill_39 rfl (lv_at hl 1 rfl) ?_
        refine lv_aload_n hx hb d_mo_fill_40 rfl (lv_at hl 1 rfl) ?_
        refine g_get S hE.1 hG.1 f15 rfl in_mo 0 (by decide) tw_491 (fun _ h9 => h9) rfl d_mo_fill_41 ?_
        refine lv_if_le (tgt := 54) hx hb d_mo_fill_44 (by decide) (fun c44 => ?_) (fun c44 => absurd c44 (by decide))
        refine lv_iload_n hx hb d_mo_fill_54 rfl (lv_at hl 2 rfl) ?_
        refine g_put S hE.1 hG f15 rfl in_mo ty_mo tyok_mo nm_mo 11 (by decide) tw_502 (fun _ h9 => h9) rfl (ty := .int) (by decide +kernel) rfl rfl (Nat.le_of_ble_eq_true rfl) d_mo_fill_55 (fun H locs hG => ?_)
        have hG : gS (gA G s.heap.size) s.heap Z.1 cls (gup G15 mo (.inr (4, [.int 0, .int (nI C), .int (nI E), .ref u1, .ref u2, .ref u3, .ref u4, .ref u5, .int (nI M), .int (nI D), .ref u6, .int v, .ref u7]))) H locs := hG
        generalize eG55 : gup G15 mo (.inr (4, [.int 0, .int (nI C), .int (nI E), .ref u1, .ref u2, .ref u3, .ref u4, .ref u5, .int (nI M), .int (nI D), .ref u6, .int v, .ref u7])) = G55 at hG
        have f55_u1 : G55 u1 = some (.inl (Z.2 1, 768, .inl cf)) := by rw [← eG55]; exact gup_keep f15 f15_u1 (by simp)
        have f55_u2 : G55 u2 = some (.inl (Z.2 2, 768, .inl mf)) := by rw [← eG55]; exact gup_keep f15 f15_u2 (by simp)
        have f55_u3 : G55 u3 = some (.inl (Z.2 2, 744, .inl ff)) := by rw [← eG55]; exact gup_keep f15 f15_u3 (by simp)
        have f55_u4 : G55 u4 = some (.inl (Z.2 2, 24, .inl gf)) := by rw [← eG55]; exact gup_keep f15 f15_u4 (by simp)
        have f55_u5 : G55 u5 = some (.inl (Z.2 1, 24, .inl sf)) := by rw [← eG55]; exact gup_keep f15 f15_u5 (by simp)
        have f55_u6 : G55 u6 = some (.inl (Z.2 2, 16, .inl tf)) := by rw [← eG55]; exact gup_keep f15 f15_u6 (by simp)
        have f55_u7 : G55 u7 = some (.inl (Z.2 1, 16, .inl bf)) := by rw [← eG55]; exact gup_keep f15 f15_u7 (by simp)
        have f55 : G55 mo = some (.inr (4, [.int 0, .int (nI C), .int (nI E), .ref u1, .ref u2, .ref u3, .ref u4, .ref u5, .int (nI M), .int (nI D), .ref u6, .int v, .ref u7])) := by rw [← eG55]; exact gup_self _ _ _
        have hK : gKe (moI mo u1 u2 u3 u4 u5 u6 u7) G G55 := by rw [← eG55]; exact hK.up (by simp [moI])
        refine lv_iload_n hx hb d_mo_fill_58 rfl (lv_at hl 0 rfl) ?_
        refine W.widen (k := 0) (n := 0) (Nat.le_of_ble_eq_true rfl) (Nat.le_of_ble_eq_true rfl) ?_
        exact (W.zret hx hb hr rfl (fun t9 ht9 hW9 => ⟨⟨_, _, rfl, ⟨hK, Or.inr ⟨rng2 c2 c7, ⟨_, _, _, _, _, _, _, ⟨f55, f55_u1, f55_u2, f55_u3, f55_u4, f55_u5, f55_u6, f55_u7, n12, n45, n67⟩, hR, hT, hC, hE8, fl3 (rng2 c2 c7)⟩, by simp [c30]⟩⟩, by rw [ht9]; exact hG.1, hG.2.1⟩, hG.2.2.1.F ht9⟩) hG.2.2.1.2.2 d_mo_fill_59)
    · refine lv_iconst (v := 1) hx hb d_mo_fill_10 (by decide) ?_
      refine lv_goto (tgt := 15) hx hb d_mo_fill_11 (by decide) ?_
      refine g_put S hE.1 hG hmo rfl in_mo ty_mo tyok_mo nm_mo 0 (by decide) tw_491 (fun _ h9 => h9) rfl (ty := .int) (by decide +kernel) rfl rfl (Nat.le_of_ble_eq_true rfl) d_mo_fill_15 (fun H locs hG => ?_)
      have hG : gS (gA G s.heap.size) s.heap Z.1 cls (gup G mo (.inr (4, [.int 1, .int (nI C), .int (nI E), .ref u1, .ref u2, .ref u3, .ref u4, .ref u5, .int (nI M), .int (nI D), .ref u6, .int fl, .ref u7]))) H locs := hG
      generalize eG15 : gup G mo (.inr (4, [.int 1, .int (nI C), .int (nI E), .ref u1, .ref u2, .ref u3, .ref u4, .ref u5, .int (nI M), .int (nI D), .ref u6, .int fl, .ref u7])) = G15 at hG
      have f15_u1 : G15 u1 = some (.inl (Z.2 1, 768, .inl cf)) := by rw [← eG15]; exact gup_keep hmo hc1 (by simp)
      have f15_u2 : G15 u2 = some (.inl (Z.2 2, 768, .inl mf)) := by rw [← eG15]; exact gup_keep hmo hc2 (by simp)
      have f15_u3 : G15 u3 = some (.inl (Z.2 2, 744, .inl ff)) := by rw [← eG15]; exact gup_keep hmo hc3 (by simp)
      have f15_u4 : G15 u4 = some (.inl (Z.2 2, 24, .inl gf)) := by rw [← eG15]; exact gup_keep hmo hc4 (by simp)
      have f15_u5 : G15 u5 = some (.inl (Z.2 1, 24, .inl sf)) := by rw [← eG15]; exact gup_keep hmo hc5 (by simp)
      have f15_u6 : G15 u6 = some (.inl (Z.2 2, 16, .inl tf)) := by rw [← eG15]; exact gup_keep hmo hc6 (by simp)
      have f15_u7 : G15 u7 = some (.inl (Z.2 1, 16, .inl bf)) := by rw [← eG15]; exact gup_keep hmo hc7 (by simp)
      have f15 : G15 mo = some (.inr (4, [.int 1, .int (nI C), .int (nI E), .ref u1, .ref u2, .ref u3, .ref u4, .ref u5, .int (nI M), .int (nI D), .ref u6, .int fl, .ref u7])) := by rw [← eG15]; exact gup_self _ _ _
      have hK : gKe (moI mo u1 u2 u3 u4 u5 u6 u7) G G15 := by rw [← eG15]; exact hK.up (by simp [moI])
      refine lv_aload_n hx hb d_mo_fill_18 rfl (lv_at hl 0 rfl) ?_
      refine g_get S hE.1 hG.1 f15 rfl in_mo 0 (by decide) tw_491 (fun _ h9 => h9) rfl d_mo_fill_19 ?_
      refine lv_if_ne (tgt := 37) hx hb d_mo_fill_22 (by decide) (fun c22 => ?_) (fun c22 => absurd c22 (by decide))
      refine lv_iconst (v := 0) hx hb d_mo_fill_37 (by decide) ?_
      refine lv_istore_n (lv' := [(2, .int 0), (0, .ref mo), (1, .int v)]) hx hb d_mo_fill_38 rfl hl (by decide) rfl (fun ls hl => ?_)
      refine lv_aload_n hx hb d_mo_fill_39 rfl (lv_at hl 1 rfl) ?_
      refine lv_aload_n hx hb d_mo_fill_40 rfl (lv_at hl 1 rfl) ?_
      refine g_get S hE.1 hG.1 f15 rfl in_mo 0 (by decide) tw_491 (fun _ h9 => h9) rfl d_mo_fill_41 ?_
      refine lv_if_le (tgt := 54) hx hb d_mo_fill_44 (by decide) (fun c44 => absurd c44 (by decide)) (fun c44 => ?_)
      refine lv_aload_n hx hb d_mo_fill_47 rfl (lv_at hl 1 rfl) ?_
      refine g_get S hE.1 hG.1 f15 rfl in_mo 11 (by decide) tw_502 (fun _ h9 => h9) rfl d_mo_fill_48 ?_
      refine lv_goto (tgt := 55) hx hb d_mo_fill_51 (by decide) ?_
      refine g_put S hE.1 hG f15 rfl in_mo ty_mo tyok_mo nm_mo 11 (by decide) tw_502 (fun _ h9 => h9) rfl (ty := .int) (by decide +kernel) rfl rfl (Nat.le_of_ble_eq_true rfl) d_mo_fill_55 (fun H locs hG => ?_)
      have hG : gS (gA G s.heap.size) s.heap Z.1 cls (gup G15 mo (.inr (4, [.int 1, .int (nI C), .int (nI E), .ref u1, .ref u2, .ref u3, .ref u4, .ref u5, .int (nI M), .int (nI D), .ref u6, .int fl, .ref u7]))) H locs := hG
      generalize eG55 : gup G15 mo (.inr (4, [.int 1, .int (nI C), .int (nI E), .ref u1, .ref u2, .ref u3, .ref u4, .ref u5, .int (nI M), .int (nI D), .ref u6, .int fl, .ref u7])) = G55 at hG
      have f55_u1 : G55 u1 = some (.inl (Z.2 1, 768, .inl cf)) := by rw [← eG55]; exact gup_keep f15 f15_u1 (by simp)
      have f55_u2 : G55 u2 = some (.inl (Z.2 2, 768, .inl mf)) := by rw [← eG55]; exact gup_keep f15 f15_u2 (by simp)
      have f55_u3 : G55 u3 = some (.inl (Z.2 2, 744, .inl ff)) := by rw [← eG55]; exact gup_keep f15 f15_u3 (by simp)
      have f55_u4 : G55 u4 = some (.inl (Z.2 2, 24, .inl gf)) := by rw [← eG55]; exact gup_keep f15 f15_u4 (by simp)
      have f55_u5 : G55 u5 = some (.inl (Z.2 1, 24, .inl sf)) := by rw [← eG55]; exact gup_keep f15 f15_u5 (by simp)
      have f55_u6 : G55 u6 = some (.inl (Z.2 2, 16, .inl tf)) := by rw [← eG55]; exact gup_keep f15 f15_u6 (by simp)
      have f55_u7 : G55 u7 = some (.inl (Z.2 1, 16, .inl bf)) := by rw [← eG55]; exact gup_keep f15 f15_u7 (by simp)
      have f55 : G55 mo = some (.inr (4, [.int 1, .int (nI C), .int (nI E), .ref u1, .ref u2, .ref u3, .ref u4, .ref u5, .int (nI M), .int (nI D), .ref u6, .int fl, .ref u7])) := by rw [← eG55]; exact gup_self _ _ _
      have hK : gKe (moI mo u1 u2 u3 u4 u5 u6 u7) G G55 := by rw [← eG55]; exact hK.up (by simp [moI])
      refine lv_iload_n hx hb d_mo_fill_58 rfl (lv_at hl 0 rfl) ?_
      refine W.widen (k := 0) (n := 0) (Nat.le_of_ble_eq_true rfl) (Nat.le_of_ble_eq_true rfl) ?_
      exact (W.zret hx hb hr rfl (fun t9 ht9 hW9 => ⟨⟨_, _, rfl, ⟨hK, Or.inl ⟨(by rintro ⟨k, hk, rfl⟩; first | exact absurd c2 (nI_pos (by omega)) | exact absurd (rng2' hk) c7), ⟨_, _, _, _, _, _, _, ⟨f55, f55_u1, f55_u2, f55_u3, f55_u4, f55_u5, f55_u6, f55_u7, n12, n45, n67⟩, hR, hT, hC, hE8, hfl⟩⟩⟩, by rw [ht9]; exact hG.1, hG.2.1⟩, hG.2.2.1.F ht9⟩) hG.2.2.1.2.2 d_mo_fill_59)
