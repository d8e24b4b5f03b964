set_option maxHeartbeats 600000 in
set_option maxRecDepth 100000 in
theorem c_mo_primitive (l : Launch) (Z : gZ) (G : gh) (sz : Nat) (mo : Nat) {u1 u2 u3 u4 u5 u6 u7 : Nat} {th : Int32} {C E M D : Nat} {fl tp : Int32} {pt : Nat → Option Nat} {pd : Nat → Pat} (hQ : moQ Z G mo u1 u2 u3 u4 u5 u6 u7 th C E M D fl tp pt pd) : Met l y_mo_primitive (wd_mo_primitive :: Gall) ({ frames := 1, cells := 0, slots := 0, locals := 23 }) (va_Pc [.ref mo] (gPw Z G sz)) (va_Qi (fun (r : Int32) (G9 : gh) => gKe (moI mo u1 u2 u3 u4 u5 u6 u7) G G9 ∧ (((r = 1 ∧ lcC (nI D) tp (2 ^ D - 1)) ∨ (r = 0 ∧ ¬ lcC (nI D) tp (2 ^ D - 1))) ∧ moQ Z G9 mo u1 u2 u3 u4 u5 u6 u7 0 C E M D fl tp pt pd)) (gW Z G sz) (gA G sz)) 0 0 (gA G sz) := by
  refine Met.ofW (cc := b_mo_primitive) (maxL := 3) (ret := (some .boolean)) (by decide) rfl ?_
  intro p e s m args below meth c s₁ B hml hv
  obtain ⟨rfl, hsz, hG, hE⟩ := hv
  subst hsz
  have hx := B.exec
  have hb := B.bytes
  have hr := B.returns
  have hlocks := B.notSynchronized
  have S : CallFix p m c b_mo_primitive 3 s _ Gall "PackSeedsModel" := ⟨hx, hb, hml, findClass_of_methodNamed B.named, fun w hw => atoms_spec (ws := wd_mo_primitive :: Gall) B.pre w (List.mem_cons_of_mem _ hw)⟩
  have hG : gS (gA G s.heap.size) s.heap Z.1 cls G s.heap [] := gS.start hG
  have hl := lv_entry ([.ref mo]) (n := 3) (Nat.le_of_ble_eq_true rfl)
  rw [lg_entry_eq]
  generalize (lg_sl ([.ref mo]) ++ List.replicate (3 - (lg_sl ([.ref mo])).length) Slot.unset).toArray = ls at hl ⊢
  have hl : lv_has ls 3 [(0, .ref mo)] := hl
  have hK : gKe (moI mo u1 u2 u3 u4 u5 u6 u7) G G := gKe.rf
  obtain ⟨cf, mf, ff, gf, sf, tf, bf, hP, hR, hT, hC, hE8, hfl⟩ := hQ
  have hP0 := hP
  obtain ⟨hmo, hc1, hc2, hc3, hc4, hc5, hc6, hc7, n12, n45, n67⟩ := hP
  have hM24 := hR.1
  have hD1 := hT.1
  have hD16 := hT.2.1
  have hN : 2 ≤ 2 ^ D ∧ 2 ^ D ≤ 65536 := by
    have h1 : 2 ^ 1 ≤ 2 ^ D := Nat.pow_le_pow_right (by omega) hD1
    have h2 : 2 ^ D ≤ 2 ^ 16 := Nat.pow_le_pow_right (by omega) hD16
    omega
  refine lv_aload_n hx hb d_mo_primitive_0 rfl (lv_at hl 0 rfl) ?_
  refine lv_iconst (v := 0) hx hb d_mo_primitive_1 (by decide) ?_
  refine g_put S hE.1 hG hmo rfl in_mo ty_mo tyok_mo nm_mo 0 (by decide) tw_491 (fun _ h9 => h9) rfl (ty := .int) (by decide +kernel) rfl rfl (Nat.le_of_ble_eq_true rfl) d_mo_primitive_2 (fun H locs hG => ?_)
  have hG : gS (gA G s.heap.size) s.heap Z.1 cls (gup G mo (.inr (4, [.int 0, .int (nI C), .int (nI E), .ref u1, .ref u2, .ref u3, .ref u4, .ref u5, .int (nI M), .int (nI D), .ref u6, .int fl, .ref u7]))) H locs := hG
  generalize eG2 : gup G mo (.inr (4, [.int 0, .int (nI C), .int (nI E), .ref u1, .ref u2, .ref u3, .ref u4, .ref u5, .int (nI M), .int (nI D), .ref u6, .int fl, .ref u7])) = G2 at hG
  have f2_u1 : G2 u1 = some (.inl (Z.2 1, 768, .inl cf)) := by rw [← eG2]; exact gup_keep hmo hc1 (by simp)
  have f2_u2 : G2 u2 = some (.inl (Z.2 2, 768, .inl mf)) := by rw [← eG2]; exact gup_keep hmo hc2 (by simp)
  have f2_u3 : G2 u3 = some (.inl (Z.2 2, 744, .inl ff)) := by rw [← eG2]; exact gup_keep hmo hc3 (by simp)
  have f2_u4 : G2 u4 = some (.inl (Z.2 2, 24, .inl gf)) := by rw [← eG2]; exact gup_keep hmo hc4 (by simp)
  have f2_u5 : G2 u5 = some (.inl (Z.2 1, 24, .inl sf)) := by rw [← eG2]; exact gup_keep hmo hc5 (by simp)
  have f2_u6 : G2 u6 = some (.inl (Z.2 2, 16, .inl tf)) := by rw [← eG2]; exact gup_keep hmo hc6 (by simp)
  have f2_u7 : G2 u7 = some (.inl (Z.2 1, 16, .inl bf)) := by rw [← eG2]; exact gup_keep hmo hc7 (by simp)
  have f2 : G2 mo = some (.inr (4, [.int 0, .int (nI C), .int (nI E), .ref u1, .ref u2, .ref u3, .ref u4, .ref u5, .int (nI M), .int (nI D), .ref u6, .int fl, .ref u7])) := by rw [← eG2]; exact gup_self _ _ _
  have hK : gKe (moI mo u1 u2 u3 u4 u5 u6 u7) G G2 := by rw [← eG2]; exact hK.up (by simp [moI])
  refine lv_aload_n hx hb d_mo_primitive_5 rfl (lv_at hl 0 rfl) ?_
  refine lv_iconst (v := 1) hx hb d_mo_primitive_6 (by decide) ?_
  refine g_reti (g_runV (As := [.int 1]) (rest := []) S lk_mo_74 k_mo_step (c_mo_step l Z G2 mo ⟨f2, f2_u1, f2_u2, f2_u3, f2_u4, f2_u5, f2_u6, f2_u7, n12, n45, n67⟩ hT 1) ⟨rfl, rfl⟩ ⟨Nat.le_of_ble_eq_true rfl, Nat.le_of_ble_eq_true rfl⟩ (gPreV hG.1 hE f2 rfl) rfl hl.1 rfl (Nat.le_of_ble_eq_true rfl) d_mo_primitive_7 ⟨Nat.le_of_ble_eq_true rfl, Nat.le_of_ble_eq_true rfl⟩) (fun r7 h7 => ?_)
  refine lv_istore_n (lv' := [(1, .int r7), (0, .ref mo)]) hx hb d_mo_primitive_10 rfl hl (by decide) rfl (fun ls hl => ?_)
  refine lv_iconst (v := nI 1) hx hb d_mo_primitive_11 (by decide) ?_
  refine lv_istore_n (lv' := [(2, .int (nI 1)), (1, .int r7), (0, .ref mo)]) hx hb d_mo_primitive_12 rfl hl (by decide) rfl (fun ls hl => ?_)
  refine g_ind (V := Nat × Int32) (fun (n, st) ls => (1 ≤ n ∧ n ≤ 2 ^ D ∧ st = sqC (nI D) tp n ∧ ∀ j, 1 ≤ j → j < n → sqC (nI D) tp j ≠ 1) ∧ lv_has ls 3 [(0, .ref mo), (1, .int st), (2, .int (nI n))]) (fun (n, st) => 2 ^ D - n) ?_ (1, r7) _ ⟨⟨Nat.le_refl _, by omega, h7, fun j h1 h2 => by omega⟩, lv_sub hl [2, 1, 0] rfl⟩
  intro v ls hI ih13
  obtain ⟨n, st⟩ := v
  obtain ⟨⟨hn1, hn2, hst, hno⟩, hl⟩ := hI
  refine lv_iload_n hx hb d_mo_primitive_13 rfl (lv_at hl 1 rfl) ?_
  refine lv_iconst (v := 1) hx hb d_mo_primitive_14 (by decide) ?_
  refine lv_icmp_eq (tgt := 40) hx hb d_mo_primitive_15 (by decide) (fun c15 => ?_) (fun c15 => ?_)
  · refine lv_iload_n hx hb d_mo_primitive_40 rfl (lv_at hl 1 rfl) ?_
    refine lv_iconst (v := 1) hx hb d_mo_primitive_41 (by decide) ?_
    refine lv_icmp_ne (tgt := 61) hx hb d_mo_primitive_42 (by decide) (fun c42 => ?_) (fun c42 => ?_)
    · refine lv_iconst (v := 0) hx hb d_mo_primitive_61 (by decide) ?_
      refine W.widen (k := 0) (n := 0) (Nat.le_of_ble_eq_true rfl) (Nat.le_of_ble_eq_true rfl) ?_
      exact (W.zret hx hb hr rfl (fun t9 ht9 hW9 => ⟨⟨_, _, rfl, ⟨hK, (by first | exact absurd c42 (fun z => z c15) | exact absurd c15 c42 | exact absurd c42 c15 | exact Or.inl ⟨rfl, (by rw [← c54]; exact ⟨hno, by rw [← hst]; exact c42⟩)⟩ | exact Or.inr ⟨rfl, fun z => by first | (rcases Nat.lt_or_ge n (2 ^ D - 1) with y | y; exact z.1 n hn1 y (by rw [← hst]; exact c15); exact hno (2 ^ D - 1) (by omega) (by omega) z.2) | (exact hno (2 ^ D - 1) (by omega) (by omega) z.2)⟩), ⟨_, _, _, _, _, _, _, ⟨f2, f2_u1, f2_u2, f2_u3, f2_u4, f2_u5, f2_u6, f2_u7, n12, n45, n67⟩, hR, hT, hC, hE8, hfl⟩⟩, by rw [ht9]; exact hG.1, hG.2.1⟩, hG.2.2.1.F ht9⟩) hG.2.2.1.2.2 d_mo_primitive_62)
    · refine lv_iload_n hx hb d_mo_primitive_45 rfl (lv_at hl 2 rfl) ?_
      refine lv_iconst (v := 1) hx hb d_mo_primitive_46 (by decide) ?_
      refine lv_aload_n hx hb d_mo_primitive_47 rfl (lv_at hl 0 rfl) ?_
      refine g_get S hE.1 hG.1 f2 rfl in_mo 9 (by decide) tw_500 (fun _ h9 => h9) rfl d_mo_primitive_48 ?_
      refine lv_ishl hx hb d_mo_primitive_51 ?_
      refine g_topi (y := nI (2 ^ D)) (shl1 D (by omega)) ?_
      refine lv_iconst (v := 1) hx hb d_mo_primitive_52 (by decide) ?_
      refine lv_isub hx hb d_mo_primitive_53 ?_
      refine g_topi (y := nI (2 ^ D - 1)) (pk_sub (a := 2 ^ D) (b := 1) (by omega)) ?_
      refine g_ne (tgt := 61) hx hb d_mo_primitive_54 (by decide) (by omega) (by omega) (fun c54 => ?_) (fun c54 => ?_)
      · refine lv_iconst (v := 0) hx hb d_mo_primitive_61 (by decide) ?_
        refine W.widen (k := 0) (n := 0) (Nat.le_of_ble_eq_true rfl) (Nat.le_of_ble_eq_true rfl) ?_
        exact (W.zret hx hb hr rfl (fun t9 ht9 hW9 => ⟨⟨_, _, rfl, ⟨hK, (by first | exact absurd c42 (fun z => z c15) | exact absurd c15 c42 | exact absurd c42 c15 | exact Or.inl ⟨rfl, (by rw [← c54]; exact ⟨hno, by rw [← hst]; exact c42⟩)⟩ | exact Or.inr ⟨rfl, fun z => by first | (rcases Nat.lt_or_ge n (2 ^ D - 1) with y | y; exact z.1 n hn1 y (by rw [← hst]; exact c15); exact hno (2 ^ D - 1) (by omega) (by omega) z.2) | (exact hno (2 ^ D - 1) (by omega) (by omega) z.2)⟩), ⟨_, _, _, _, _, _, _, ⟨f2, f2_u1, f2_u2, f2_u3, f2_u4, f2_u5, f2_u6, f2_u7, n12, n45, n67⟩, hR, hT, hC, hE8, hfl⟩⟩, by rw [ht9]; exact hG.1, hG.2.1⟩, hG.2.2.1.F ht9⟩) hG.2.2.1.2.2 d_mo_primitive_62)
      · refine lv_iconst (v := 1) hx hb d_mo_primitive_57 (by decide) ?_
        refine lv_goto (tgt := 62) hx hb d_mo_primitive_58 (by decide) ?_
        refine W.widen (k := 0) (n := 0) (Nat.le_of_ble_eq_true rfl) (Nat.le_of_ble_eq_true rfl) ?_
        exact (W.zret hx hb hr rfl (fun t9 ht9 hW9 => ⟨⟨_, _, rfl, ⟨hK, (by first | exact absurd c42 (fun z => z c15) | exact absurd c15 c42 | exact absurd c42 c15 | exact Or.inl ⟨rfl, (by rw [← c54]; exact ⟨hno, by rw [← hst]; exact c42⟩)⟩ | exact Or.inr ⟨rfl, fun z => by first | (rcases Nat.lt_or_ge n (2 ^ D - 1) with y | y; exact z.1 n hn1 y (by rw [← hst]; exact c15); exact hno (2 ^ D - 1) (by omega) (by omega) z.2) | (exact hno (2 ^ D - 1) (by omega) (by omega) z.2)⟩), ⟨_, _, _, _, _, _, _, ⟨f2, f2_u1, f2_u2, f2_u3, f2_u4, f2_u5, f2_u6, f2_u7, n12, n45, n67⟩, hR, hT, hC, hE8, hfl⟩⟩, by rw [ht9]; exact hG.1, hG.2.1⟩, hG.2.2.1.F ht9⟩) hG.2.2.1.2.2 d_mo_primitive_62)
  · refine lv_iload_n hx hb d_mo_primitive_18 rfl (lv_at hl 2 rfl) ?_
    refine lv_iconst (v := 1) hx hb d_mo_primitive_19 (by decide) ?_
    refine lv_aload_n hx hb d_mo_primitive_20 rfl (lv_at hl 0 rfl) ?_
    refine g_get S hE.1 hG.1 f2 rfl in_mo 9 (by decide) tw_500 (fun _ h9 => h9) rfl d_mo_primitive_21 ?_
    refine lv_ishl hx hb d_mo_primitive_24 ?_
    refine g_topi (y := nI (2 ^ D)) (shl1 D (by omega)) ?_
    refine g_ge (tgt := 40) hx hb d_mo_primitive_25 (by decide) (by omega) (by omega) (fun c25 => ?_) (fun c25 => ?_)
    · refine lv_iload_n hx hb d_mo_primitive_40 rfl (lv_at hl 1 rfl) ?_
      refine lv_iconst (v := 1) hx hb d_mo_primitive_41 (by decide) ?_
      refine lv_icmp_ne (tgt := 61) hx hb d_mo_primitive_42 (by decide) (fun c42 => ?_) (fun c42 => ?_)
      · refine lv_iconst (v := 0) hx hb d_mo_primitive_61 (by decide) ?_
        refine W.widen (k := 0) (n := 0) (Nat.le_of_ble_eq_true rfl) (Nat.le_of_ble_eq_true rfl) ?_
        exact (W.zret hx hb hr rfl (fun t9 ht9 hW9 => ⟨⟨_, _, rfl, ⟨hK, (by first | exact absurd c42 (fun z => z c15) | exact absurd c15 c42 | exact absurd c42 c15 | exact Or.inl ⟨rfl, (by rw [← c54]; exact ⟨hno, by rw [← hst]; exact c42⟩)⟩ | exact Or.inr ⟨rfl, fun z => by first | (rcases Nat.lt_or_ge n (2 ^ D - 1) with y | y; exact z.1 n hn1 y (by rw [← hst]; exact c15); exact hno (2 ^ D - 1) (by omega) (by omega) z.2) | (exact hno (2 ^ D - 1) (by omega) (by omega) z.2)⟩), ⟨_, _, _, _, _, _, _, ⟨f2, f2_u1, f2_u2, f2_u3, f2_u4, f2_u5, f2_u6, f2_u7, n12, n45, n67⟩, hR, hT, hC, hE8, hfl⟩⟩, by rw [ht9]; exact hG.1, hG.2.1⟩, hG.2.2.1.F ht9⟩) hG.2.2.1.2.2 d_mo_primitive_62)
      · refine lv_iload_n hx hb d_mo_primitive_45 rfl (lv_at hl 2 rfl) ?_
        refine lv_iconst (v := 1) hx hb d_mo_primitive_46 (by decide) ?_
        refine lv_aload_n hx hb d_mo_primitive_47 rfl (lv_at hl 0 rfl) ?_
        refine g_get S hE.1 hG.1 f2 rfl in_mo 9 (by decide) tw_500 (fun _ h9 => h9) rfl d_mo_primitive_48 ?_
        refine lv_ishl hx hb d_mo_primitive_51 ?_
        refine g_topi (y := nI (2 ^ D)) (shl1 D (by omega)) ?_
        refine lv_iconst (v := 1) hx hb d_mo_primitive_52 (by decide) ?_
        refine lv_isub hx hb d_mo_primitive_53 ?_
        refine g_topi (y := nI (2 ^ D - 1)) (pk_sub (a := 2 ^ D) (b := 1) (by omega)) ?_
        refine g_ne (tgt := 61) hx hb d_mo_primitive_54 (by decide) (by omega) (by omega) (fun c54 => ?_) (fun c54 => ?_)
        · refine lv_iconst (v := 0) hx hb d_mo_primitive_61 (by decide) ?_
          refine W.widen (k := 0) (n := 0) (Nat.le_of_ble_eq_true rfl) (Nat.le_of_ble_eq_true rfl) ?_
          exact (W.zret hx hb hr rfl (fun t9 ht9 hW9 => ⟨⟨_, _, rfl, ⟨hK, (by first | exact absurd c42 (fun z => z c15) | exact absurd c15 c42 | exact absurd c42 c15 | exact Or.inl ⟨rfl, (by rw [← c54]; exact ⟨hno, by rw [← hst]; exact c42⟩)⟩ | exact Or.inr ⟨rfl, fun z => by first | (rcases Nat.lt_or_ge n (2 ^ D - 1) with y | y; exact z.1 n hn1 y (by rw [← hst]; exact c15); exact hno (2 ^ D - 1) (by omega) (by omega) z.2) | (exact hno (2 ^ D - 1) (by omega) (by omega) z.2)⟩), ⟨_, _, _, _, _, _, _, ⟨f2, f2_u1, f2_u2, f2_u3, f2_u4, f2_u5, f2_u6, f2_u7, n12, n45, n67⟩, hR, hT, hC, hE8, hfl⟩⟩, by rw [ht9]; exact hG.1, hG.2.1⟩, hG.2.2.1.F ht9⟩) hG.2.2.1.2.2 d_mo_primitive_62)
        · refine lv_iconst (v := 1) hx hb d_mo_primitive_57 (by decide) ?_
          refine lv_goto (tgt := 62) hx hb d_mo_primitive_58 (by decide) ?_
          refine W.widen (k := 0) (n := 0) (Nat.le_of_ble_eq_true rfl) (Nat.le_of_ble_eq_true rfl) ?_
          exact (W.zret hx hb hr rfl (fun t9 ht9 hW9 => ⟨⟨_, _, rfl, ⟨hK, (by first | exact absurd c42 (fun z => z c15) | exact absurd c15 c42 | exact absurd c42 c15 | exact Or.inl ⟨rfl, (by rw [← c54]; exact ⟨hno, by rw [← hst]; exact c42⟩)⟩ | exact Or.inr ⟨rfl, fun z => by first | (rcases Nat.lt_or_ge n (2 ^ D - 1) with y | y; exact z.1 n hn1 y (by rw [← hst]; exact c15); exact hno (2 ^ D - 1) (by omega) (by omega) z.2) | (exact hno (2 ^ D - 1) (by omega) (by omega) z.2)⟩), ⟨_, _, _, _, _, _, _, ⟨f2, f2_u1, f2_u2, f2_u3, f2_u4, f2_u5, f2_u6, f2_u7, n12, n45, n67⟩, hR, hT, hC, hE8, hfl⟩⟩, by rw [ht9]; exact hG.1, hG.2.1⟩, hG.2.2.1.F ht9⟩) hG.2.2.1.2.2 d_mo_primitive_62)
    · refine lv_aload_n hx hb d_mo_primitive_28 rfl (lv_at hl 0 rfl) ?_
      refine lv_iload_n hx hb d_mo_primitive_29 rfl (lv_at hl 1 rfl) ?_
      refine g_reti (g_runV (As := [.int st]) (rest := []) S lk_mo_74 k_mo_step (c_mo_step l Z G2 mo ⟨f2, f2_u1, f2_u2, f2_u3, f2_u4, f2_u5, f2_u6, f2_u7, n12, n45, n67⟩ hT st) ⟨rfl, rfl⟩ ⟨Nat.le_of_ble_eq_true rfl, Nat.le_of_ble_eq_true rfl⟩ (gPreV hG.1 hE f2 rfl) rfl hl.1 rfl (Nat.le_of_ble_eq_true rfl) d_mo_primitive_30 ⟨Nat.le_of_ble_eq_true rfl, Nat.le_of_ble_eq_true rfl⟩) (fun r30 h30 => ?_)
      refine lv_istore_n (lv' := [(1, .int r30), (0, .ref mo), (2, .int (nI n))]) hx hb d_mo_primitive_33 rfl hl (by decide) rfl (fun ls hl => ?_)
      refine lv_iinc (v := nI (n + 1)) (lv' := [(2, .int (nI (n + 1))), (1, .int r30), (0, .ref mo)]) hx hb d_mo_primitive_34 hl (k := 2) rfl (show nI n + 1 = _ from nI_1 n) (by decide) rfl (fun ls hl => ?_)
      refine lv_goto (tgt := 13) hx hb d_mo_primitive_37 (by decide) ?_
      exact ih13 ((n + 1), r30) _ ⟨⟨by omega, by omega, by rw [h30, hst]; rfl, fun j h1 h2 => by
          by_cases e9 : j = n
          · subst e9; rw [← hst]; exact c15
          · exact hno j h1 (by omega)⟩, lv_sub hl [2, 1, 0] rfl⟩ (by first | omega | (simp only []; omega))

set_option maxHeartbeats 600000 in
set_option maxRecDepth 100000 in
theorem c_mo_shifts (l : Launch) (Z : gZ) (G : gh) (sz : Nat) (mo : Nat) {u1 u2 u3 u4 u5 u6 u7 : Nat} {th : Int32} {C E M D : Nat} {fl tp : Int32} {pt : Nat → Option Nat} {pd : Nat → Pat} (hQ : moQ Z G mo u1 u2 u3 u4 u5 u6 u7 th C E M D fl tp pt pd) (n : Int32) : Met l y_mo_shifts (wd_mo_shifts :: Gall) ({ frames := 3, cells := 0, slots := 0, locals := 73 }) (va_Pc [.ref mo, .int n] (gPw Z G sz)) (va_Ql (fun (r : Int64) (G9 : gh) => gKe (moI mo u1 u2 u3 u4 u5 u6 u7) G G9 ∧ (((∀ j, ¬ okP pt pd n j) ∧ moQ Z G9 mo u1 u2 u3 u4 u5 u6 u7 1 C E M D fl tp pt pd) ∨ (∃ j, okP pt pd n j ∧ moQ Z G9 mo u1 u2 u3 u4 u5 u6 u7 0 C E M D fl tp pt pd ∧ r = shC (bitsC (nI D) tp fl C E (pd j)) E C))) (gW Z G sz) (gA G sz)) 0 0 (gA G sz) := by
  refine Met.ofW (cc := b_mo_shifts) (maxL := 6) (ret := (some .long)) (by decide) rfl ?_
  intro p e s m args below meth c s₁ B hml hv
  obtain ⟨rfl, hsz, hG, hE⟩ := hv
  subst hsz
  have hx := B.exec
  have hb := B.bytes
  have hr := B.returns
  have hlocks := B.notSynchronized
  have S : CallFix p m c b_mo_shifts 6 s _ Gall "PackSeedsModel" := ⟨hx, hb, hml, findClass_of_methodNamed B.named, fun w hw => atoms_spec (ws := wd_mo_shifts :: Gall) B.pre w (List.mem_cons_of_mem _ hw)⟩
  have hG : gS (gA G s.heap.size) s.heap Z.1 cls G s.heap [] := gS.start hG
  have hl := lv_entry ([.ref mo, .int n]) (n := 6) (Nat.le_of_ble_eq_true rfl)
  rw [lg_entry_eq]
  generalize (lg_sl ([.ref mo, .int n]) ++ List.replicate (6 - (lg_sl ([.ref mo, .int n])).length) Slot.unset).toArray = ls at hl ⊢
  have hl : lv_has ls 6 [(0, .ref mo), (1, .int n)] := hl
  have hK : gKe (moI mo u1 u2 u3 u4 u5 u6 u7) G G := gKe.rf
  obtain ⟨cf, mf, ff, gf, sf, tf, bf, hP, hR, hT, hC, hE8, hfl⟩ := hQ
  have hP0 := hP
  obtain ⟨hmo, hc1, hc2, hc3, hc4, hc5, hc6, hc7, n12, n45, n67⟩ := hP
  have hM24 := hR.1
  have hD1 := hT.1
  have hD16 := hT.2.1
  refine lv_aload_n hx hb d_mo_shifts_0 rfl (lv_at hl 0 rfl) ?_
  refine lv_aload_n hx hb d_mo_shifts_1 rfl (lv_at hl 0 rfl) ?_
  refine lv_iload_n hx hb d_mo_shifts_2 rfl (lv_at hl 1 rfl) ?_
  refine g_reti (g_runV (As := [.int n]) (rest := [.ref mo]) S lk_mo_48 k_mo_is (c_mo_is l Z G mo hP0 hR n) ⟨rfl, rfl⟩ ⟨Nat.le_of_ble_eq_true rfl, Nat.le_of_ble_eq_true rfl⟩ (gPreV hG.1 hE hmo rfl) rfl hl.1 rfl (Nat.le_of_ble_eq_true rfl) d_mo_shifts_3 ⟨Nat.le_of_ble_eq_true rfl, Nat.le_of_ble_eq_true rfl⟩) (fun r3 h3 => ?_)
  refine lv_if_eq (tgt := 13) hx hb d_mo_shifts_6 (by decide) (fun c6 => ?_) (fun c6 => ?_)
  · refine lv_iconst (v := 1) hx hb d_mo_shifts_13 (by decide) ?_
    refine g_put S hE.1 hG hmo rfl in_mo ty_mo tyok_mo nm_mo 0 (by decide) tw_491 (fun _ h9 => h9) rfl (ty := .int) (by decide +kernel) rfl rfl (Nat.le_of_ble_eq_true rfl) d_mo_shifts_14 (fun H locs hG => ?_)
    have hG : gS (gA G s.heap.size) s.heap Z.1 cls (gup G mo (.inr (4, [.int 1, .int (nI C), .int (nI E), .ref u1, .ref u2, .ref u3, .ref u4, .ref u5, .int (nI M), .int (nI D), .ref u6, .int fl, .ref u7]))) H locs := hG
    generalize eG14 : gup G mo (.inr (4, [.int 1, .int (nI C), .int (nI E), .ref u1, .ref u2, .ref u3, .ref u4, .ref u5, .int (nI M), .int (nI D), .ref u6, .int fl, .ref u7])) = G14 at hG
    have f14_u1 : G14 u1 = some (.inl (Z.2 1, 768, .inl cf)) := by rw [← eG14]; exact gup_keep hmo hc1 (by simp)
    have f14_u2 : G14 u2 = some (.inl (Z.2 2, 768, .inl mf)) := by rw [← eG14]; exact gup_keep hmo hc2 (by simp)
    have f14_u3 : G14 u3 = some (.inl (Z.2 2, 744, .inl ff)) := by rw [← eG14]; exact gup_keep hmo hc3 (by simp)
    have f14_u4 : G14 u4 = some (.inl (Z.2 2, 24, .inl gf)) := by rw [← eG14]; exact gup_keep hmo hc4 (by simp)
    have f14_u5 : G14 u5 = some (.inl (Z.2 1, 24, .inl sf)) := by rw [← eG14]; exact gup_keep hmo hc5 (by simp)
    have f14_u6 : G14 u6 = some (.inl (Z.2 2, 16, .inl tf)) := by rw [← eG14]; exact gup_keep hmo hc6 (by simp)
    have f14_u7 : G14 u7 = some (.inl (Z.2 1, 16, .inl bf)) := by rw [← eG14]; exact gup_keep hmo hc7 (by simp)
    have f14 : G14 mo = some (.inr (4, [.int 1, .int (nI C), .int (nI E), .ref u1, .ref u2, .ref u3, .ref u4, .ref u5, .int (nI M), .int (nI D), .ref u6, .int fl, .ref u7])) := by rw [← eG14]; exact gup_self _ _ _
    have hK : gKe (moI mo u1 u2 u3 u4 u5 u6 u7) G G14 := by rw [← eG14]; exact hK.up (by simp [moI])
    refine lv_lconst (v := 0) hx hb d_mo_shifts_17 (by decide) ?_
    refine lv_lstore_n (lv' := [(2, .long 0), (0, .ref mo), (1, .int n)]) hx hb d_mo_shifts_18 rfl hl (by decide) rfl (fun ls hl => ?_)
    refine lv_iconst (v := nI 0) hx hb d_mo_shifts_19 (by decide) ?_
    refine lv_istore (lv' := [(4, .int (nI 0)), (2, .long 0), (0, .ref mo), (1, .int n)]) hx hb d_mo_shifts_20 hl (by decide) rfl (fun ls hl => ?_)
    refine lv_iload hx hb d_mo_shifts_22 (lv_at hl 0 rfl) ?_
    refine lv_aload_n hx hb d_mo_shifts_24 rfl (lv_at hl 2 rfl) ?_
    refine g_get S hE.1 hG.1 f14 rfl in_mo 1 (by decide) tw_492 (fun _ h9 => h9) rfl d_mo_shifts_25 ?_
    refine g_ge (tgt := 99) hx hb d_mo_shifts_28 (by decide) (by omega) (by omega) (fun c28 => ?_) (fun c28 => ?_)
    · refine lv_lload_n hx hb d_mo_shifts_99 rfl (lv_at hl 1 rfl) ?_
      refine W.widen (k := 0) (n := 0) (Nat.le_of_ble_eq_true rfl) (Nat.le_of_ble_eq_true rfl) ?_
      exact (W.lret hx hb hr (fun t9 ht9 hW9 => ⟨⟨_, _, rfl, ⟨hK, Or.inl ⟨isNo h3 c6, ⟨_, _, _, _, _, _, _, ⟨f14, f14_u1, f14_u2, f14_u3, f14_u4, f14_u5, f14_u6, f14_u7, n12, n45, n67⟩, hR, hT, hC, hE8, hfl⟩⟩⟩, by rw [ht9]; exact hG.1, hG.2.1⟩, hG.2.2.1.F ht9⟩) hG.2.2.1.2.2 d_mo_shifts_100)
    · refine lv_aload_n hx hb d_mo_shifts_31 rfl (lv_at hl 2 rfl) ?_
      refine g_get S hE.1 hG.1 f14 rfl in_mo 0 (by decide) tw_491 (fun _ h9 => h9) rfl d_mo_shifts_32 ?_
      refine lv_if_ne (tgt := 99) hx hb d_mo_shifts_35 (by decide) (fun c35 => ?_) (fun c35 => absurd c35 (by decide))
      refine lv_lload_n hx hb d_mo_shifts_99 rfl (lv_at hl 1 rfl) ?_
      refine W.widen (k := 0) (n := 0) (Nat.le_of_ble_eq_true rfl) (Nat.le_of_ble_eq_true rfl) ?_
      exact (W.lret hx hb hr (fun t9 ht9 hW9 => ⟨⟨_, _, rfl, ⟨hK, Or.inl ⟨isNo h3 c6, ⟨_, _, _, _, _, _, _, ⟨f14, f14_u1, f14_u2, f14_u3, f14_u4, f14_u5, f14_u6, f14_u7, n12, n45, n67⟩, hR, hT, hC, hE8, hfl⟩⟩⟩, by rw [ht9]; exact hG.1, hG.2.1⟩, hG.2.2.1.F ht9⟩) hG.2.2.1.2.2 d_mo_shifts_100)
  · refine lv_iconst (v := 0) hx hb d_mo_shifts_9 (by decide) ?_
    refine lv_goto (tgt := 14) hx hb d_mo_shifts_10 (by decide) ?_
    refine g_put S hE.1 hG hmo rfl in_mo ty_mo tyok_mo nm_mo 0 (by decide) tw_491 (fun _ h9 => h9) rfl (ty := .int) (by decide +kernel) rfl rfl (Nat.le_of_ble_eq_true rfl) d_mo_shifts_14 (fun H locs hG => ?_)
    have hG : gS (gA G s.heap.size) s.heap Z.1 cls (gup G mo (.inr (4, [.int 0, .int (nI C), .int (nI E), .ref u1, .ref u2, .ref u3, .ref u4, .ref u5, .int (nI M), .int (nI D), .ref u6, .int fl, .ref u7]))) H locs := hG
    generalize eG14 : gup G mo (.inr (4, [.int 0, .int (nI C), .int (nI E), .ref u1, .ref u2, .ref u3, .ref u4, .ref u5, .int (nI M), .int (nI D), .ref u6, .int fl, .ref u7])) = G14 at hG
    have f14_u1 : G14 u1 = some (.inl (Z.2 1, 768, .inl cf)) := by rw [← eG14]; exact gup_keep hmo hc1 (by simp)
    have f14_u2 : G14 u2 = some (.inl (Z.2 2, 768, .inl mf)) := by rw [← eG14]; exact gup_keep hmo hc2 (by simp)
    have f14_u3 : G14 u3 = some (.inl (Z.2 2, 744, .inl ff)) := by rw [← eG14]; exact gup_keep hmo hc3 (by simp)
    have f14_u4 : G14 u4 = some (.inl (Z.2 2, 24, .inl gf)) := by rw [← eG14]; exact gup_keep hmo hc4 (by simp)
    have f14_u5 : G14 u5 = some (.inl (Z.2 1, 24, .inl sf)) := by rw [← eG14]; exact gup_keep hmo hc5 (by simp)
    have f14_u6 : G14 u6 = some (.inl (Z.2 2, 16, .inl tf)) := by rw [← eG14]; exact gup_keep hmo hc6 (by simp)
    have f14_u7 : G14 u7 = some (.inl (Z.2 1, 16, .inl bf)) := by rw [← eG14]; exact gup_keep hmo hc7 (by simp)
    have f14 : G14 mo = some (.inr (4, [.int 0, .int (nI C), .int (nI E), .ref u1, .ref u2, .ref u3, .ref u4, .ref u5, .int (nI M), .int (nI D), .ref u6, .int fl, .ref u7])) := by rw [← eG14]; exact gup_self _ _ _
    have hK : gKe (moI mo u1 u2 u3 u4 u5 u6 u7) G G14 := by rw [← eG14]; exact hK.up (by simp [moI])
    obtain ⟨j, hj⟩ := isOk h3 c6
    obtain ⟨ej, hjM, hgj⟩ := hR.ok.mp hj
    have hj0 := hj
    subst ej
    refine lv_lconst (v := 0) hx hb d_mo_shifts_17 (by decide) ?_
    refine lv_lstore_n (lv' := [(2, .long 0), (0, .ref mo), (1, .int (nI j))]) hx hb d_mo_shifts_18 rfl hl (by decide) rfl (fun ls hl => ?_)
    refine lv_iconst (v := nI 0) hx hb d_mo_shifts_19 (by decide) ?_
    refine lv_istore (lv' := [(4, .int (nI 0)), (2, .long 0), (0, .ref mo), (1, .int (nI j))]) hx hb d_mo_shifts_20 hl (by decide) rfl (fun ls hl => ?_)
    refine g_ind (V := Nat × Int64) (fun (c, a) ls => (c ≤ C ∧ a = shC (bitsC (nI D) tp fl C E (pd j)) E c) ∧ lv_has ls 6 [(0, .ref mo), (1, .int (nI j)), (2, .long a), (4, .int (nI c))]) (fun (c, a) => C - c) ?_ (0, 0) _ ⟨⟨Nat.zero_le _, rfl⟩, lv_sub hl [2, 3, 1, 0] rfl⟩
    intro v ls hI ih22
    obtain ⟨c, a⟩ := v
    obtain ⟨⟨hc, ha⟩, hl⟩ := hI
    refine lv_iload hx hb d_mo_shifts_22 (lv_at hl 3 rfl) ?_
    refine lv_aload_n hx hb d_mo_shifts_24 rfl (lv_at hl 0 rfl) ?_
    refine g_get S hE.1 hG.1 f14 rfl in_mo 1 (by decide) tw_492 (fun _ h9 => h9) rfl d_mo_shifts_25 ?_
    refine g_ge (tgt := 99) hx hb d_mo_shifts_28 (by decide) (by omega) (by omega) (fun c28 => ?_) (fun c28 => ?_)
    · refine lv_lload_n hx hb d_mo_shifts_99 rfl (lv_at hl 2 rfl) ?_
      refine W.widen (k := 0) (n := 0) (Nat.le_of_ble_eq_true rfl) (Nat.le_of_ble_eq_true rfl) ?_
      exact (W.lret hx hb hr (fun t9 ht9 hW9 => ⟨⟨_, _, rfl, ⟨hK, Or.inr ⟨j, hj0, ⟨_, _, _, _, _, _, _, ⟨f14, f14_u1, f14_u2, f14_u3, f14_u4, f14_u5, f14_u6, f14_u7, n12, n45, n67⟩, hR, hT, hC, hE8, hfl⟩, by rw [ha, show c = C by omega]⟩⟩, by rw [ht9]; exact hG.1, hG.2.1⟩, hG.2.2.1.F ht9⟩) hG.2.2.1.2.2 d_mo_shifts_100)
    · refine lv_aload_n hx hb d_mo_shifts_31 rfl (lv_at hl 0 rfl) ?_
      refine g_get S hE.1 hG.1 f14 rfl in_mo 0 (by decide) tw_491 (fun _ h9 => h9) rfl d_mo_shifts_32 ?_
      refine lv_if_ne (tgt := 99) hx hb d_mo_shifts_35 (by decide) (fun c35 => absurd c35 (by decide)) (fun c35 => ?_)
      refine lv_iconst (v := nI 0) hx hb d_mo_shifts_38 (by decide) ?_
      refine lv_istore (lv' := [(5, .int (nI 0)), (0, .ref mo), (1, .int (nI j)), (2, .long a), (4, .int (nI c))]) hx hb d_mo_shifts_39 hl (by decide) rfl (fun ls hl => ?_)
      refine g_ind (V := Nat × Int64) (fun (k, a2) ls => (k ≤ E - 1 ∧ a2 = shI (bitsC (nI D) tp fl C E (pd j)) c a k) ∧ lv_has ls 6 [(0, .ref mo), (1, .int (nI j)), (2, .long a2), (4, .int (nI c)), (5, .int (nI k))]) (fun (k, a2) => E - k) ?_ (0, a) _ ⟨⟨Nat.zero_le _, rfl⟩, lv_sub hl [1, 2, 3, 4, 0] rfl⟩
      intro v ls hI ih41
      obtain ⟨k, a2⟩ := v
      obtain ⟨⟨hk, ha2⟩, hl⟩ := hI
      refine lv_iload hx hb d_mo_shifts_41 (lv_at hl 4 rfl) ?_
      refine lv_iconst (v := nI 1) hx hb d_mo_shifts_43 (by decide) ?_
      refine lv_iadd hx hb d_mo_shifts_44 ?_
      refine g_topi (y := nI (k + 1)) (nI_add k 1) ?_
      refine lv_aload_n hx hb d_mo_shifts_45 rfl (lv_at hl 0 rfl) ?_
      refine g_get S hE.1 hG.1 f14 rfl in_mo 2 (by decide) tw_493 (fun _ h9 => h9) rfl d_mo_shifts_46 ?_
      refine g_ge (tgt := 93) hx hb d_mo_shifts_49 (by decide) (by omega) (by omega) (fun c49 => ?_) (fun c49 => ?_)
      · refine lv_iinc (v := nI (c + 1)) (lv' := [(4, .int (nI (c + 1))), (0, .ref mo), (1, .int (nI j)), (2, .long a2), (5, .int (nI k))]) hx hb d_mo_shifts_93 hl (k := 3) rfl (show nI c + 1 = _ from nI_1 c) (by decide) rfl (fun ls hl => ?_)
        refine lv_goto (tgt := 22) hx hb d_mo_shifts_96 (by decide) ?_
        exact ih22 ((c + 1), a2) _ ⟨⟨by omega, by rw [ha2, ha, show k = E - 1 by omega]; rfl⟩, lv_sub hl [1, 2, 3, 0] rfl⟩ (by first | omega | (simp only []; omega))
      · refine lv_aload_n hx hb d_mo_shifts_52 rfl (lv_at hl 0 rfl) ?_
        refine lv_iload_n hx hb d_mo_shifts_53 rfl (lv_at hl 1 rfl) ?_
        refine lv_iload hx hb d_mo_shifts_54 (lv_at hl 3 rfl) ?_
        refine lv_iload hx hb d_mo_shifts_56 (lv_at hl 4 rfl) ?_
        refine g_reti (g_runV (As := [.int (nI j), .int (nI c), .int (nI k)]) (rest := []) S lk_mo_86 k_mo_bitOf (c_mo_bitOf l Z G14 mo ⟨f14, f14_u1, f14_u2, f14_u3, f14_u4, f14_u5, f14_u6, f14_u7, n12, n45, n67⟩ hR hT hC hE8 hfl j hjM hgj c k (by omega) (by omega)) ⟨rfl, rfl⟩ ⟨Nat.le_of_ble_eq_true rfl, Nat.le_of_ble_eq_true rfl⟩ (gPreV hG.1 hE f14 rfl) rfl hl.1 rfl (Nat.le_of_ble_eq_true rfl) d_mo_shifts_58 ⟨Nat.le_of_ble_eq_true rfl, Nat.le_of_ble_eq_true rfl⟩) (fun r58 h58 => ?_)
        refine g_topi (y := zb (tb (bitsC (nI D) tp fl C E (pd j)) (8 * c + k))) h58 ?_
        refine lv_aload_n hx hb d_mo_shifts_61 rfl (lv_at hl 0 rfl) ?_
        refine lv_iload_n hx hb d_mo_shifts_62 rfl (lv_at hl 1 rfl) ?_
        refine lv_iload hx hb d_mo_shifts_63 (lv_at hl 3 rfl) ?_
        refine lv_iload hx hb d_mo_shifts_65 (lv_at hl 4 rfl) ?_
        refine lv_iconst (v := nI 1) hx hb d_mo_shifts_67 (by decide) ?_
        refine lv_iadd hx hb d_mo_shifts_68 ?_
        refine g_topi (y := nI (k + 1)) (nI_add k 1) ?_
        refine g_reti (g_runV (As := [.int (nI j), .int (nI c), .int (nI (k + 1))]) (rest := [.int (zb (tb (bitsC (nI D) tp fl C E (pd j)) (8 * c + k)))]) S lk_mo_86 k_mo_bitOf (c_mo_bitOf l Z G14 mo ⟨f14, f14_u1, f14_u2, f14_u3, f14_u4, f14_u5, f14_u6, f14_u7, n12, n45, n67⟩ hR hT hC hE8 hfl j hjM hgj c (k + 1) (by omega) (by omega)) ⟨rfl, rfl⟩ ⟨Nat.le_of_ble_eq_true rfl, Nat.le_of_ble_eq_true rfl⟩ (gPreV hG.1 hE f14 rfl) rfl hl.1 rfl (Nat.le_of_ble_eq_true rfl) d_mo_shifts_69 ⟨Nat.le_of_ble_eq_true rfl, Nat.le_of_ble_eq_true rfl⟩) (fun r69 h69 => ?_)
        refine g_topi (y := zb (tb (bitsC (nI D) tp fl C E (pd j)) (8 * c + (k + 1)))) h69 ?_
        refine lv_icmp_eq (tgt := 85) hx hb d_mo_shifts_72 (by decide) (fun c72 => ?_) (fun c72 => ?_)
        · refine lv_lload_n hx hb d_mo_shifts_85 rfl (lv_at hl 2 rfl) ?_
          refine lv_lstore_n (lv' := [(2, .long a2), (0, .ref mo), (1, .int (nI j)), (4, .int (nI c)), (5, .int (nI k))]) hx hb d_mo_shifts_86 rfl hl (by decide) rfl (fun ls hl => ?_)
          refine lv_iinc (v := nI (k + 1)) (lv' := [(5, .int (nI (k + 1))), (2, .long a2), (0, .ref mo), (1, .int (nI j)), (4, .int (nI c))]) hx hb d_mo_shifts_87 hl (k := 4) rfl (show nI k + 1 = _ from nI_1 k) (by decide) rfl (fun ls hl => ?_)
          refine lv_goto (tgt := 41) hx hb d_mo_shifts_90 (by decide) ?_
          exact ih41 ((k + 1), a2) _ ⟨⟨by omega, by
              have hz := zb_bits (bitsC (nI D) tp fl C E (pd j)) (c := c) (k := k) (by omega) (by omega)
              simp only [shI, itr_s]; rw [← shI, ← ha2]
              first | rw [if_pos (hz.mp c72)] | rw [if_neg (fun z => c72 (hz.mpr z)), e86, sh_add _ (by omega)]⟩, lv_sub hl [2, 3, 1, 4, 0] rfl⟩ (by first | omega | (simp only []; omega))
        · refine lv_lload_n hx hb d_mo_shifts_75 rfl (lv_at hl 2 rfl) ?_
          refine lv_iload hx hb d_mo_shifts_76 (lv_at hl 4 rfl) ?_
          refine lv_i2l hx hb d_mo_shifts_78 rfl ?_
          refine lv_ladd hx hb d_mo_shifts_79 ?_
          refine lv_lconst (v := 1) hx hb d_mo_shifts_80 (by decide) ?_
          refine lv_ladd hx hb d_mo_shifts_81 ?_
          refine lv_goto (tgt := 86) hx hb d_mo_shifts_82 (by decide) ?_
          refine lv_topl (fun x86 e86 => ?_)
          refine lv_lstore_n (lv' := [(2, .long x86), (0, .ref mo), (1, .int (nI j)), (4, .int (nI c)), (5, .int (nI k))]) hx hb d_mo_shifts_86 rfl hl (by decide) rfl (fun ls hl => ?_)
          refine lv_iinc (v := nI (k + 1)) (lv' := [(5, .int (nI (k + 1))), (2, .long x86), (0, .ref mo), (1, .int (nI j)), (4, .int (nI c))]) hx hb d_mo_shifts_87 hl (k := 4) rfl (show nI k + 1 = _ from nI_1 k) (by decide) rfl (fun ls hl => ?_)
          refine lv_goto (tgt := 41) hx hb d_mo_shifts_90 (by decide) ?_
          exact ih41 ((k + 1), x86) _ ⟨⟨by omega, by
              have hz := zb_bits (bitsC (nI D) tp fl C E (pd j)) (c := c) (k := k) (by omega) (by omega)
              simp only [shI, itr_s]; rw [← shI, ← ha2]
              first | rw [if_pos (hz.mp c72)] | rw [if_neg (fun z => c72 (hz.mpr z)), e86, sh_add _ (by omega)]⟩, lv_sub hl [2, 3, 1, 4, 0] rfl⟩ (by first | omega | (simp only []; omega))

set_option maxHeartbeats 600000 in
set_option maxRecDepth 100000 in
theorem c_mo_signature (l : Launch) (Z : gZ) (G : gh) (sz : Nat) (mo : Nat) {u1 u2 u3 u4 u5 u6 u7 : Nat} {th : Int32} {C E M D : Nat} {fl tp : Int32} {pt : Nat → Option Nat} {pd : Nat → Pat} (hQ : moQ Z G mo u1 u2 u3 u4 u5 u6 u7 th C E M D fl tp pt pd) (a0 b0 : Int32) : Met l y_mo_signature (wd_mo_signature :: Gall) ({ frames := 3, cells := 0, slots := 0, locals := 73 }) (va_Pc [.ref mo, .int a0, .int b0] (gPw Z G sz)) (va_Ql (fun (r : Int64) (G9 : gh) => gKe (moI mo u1 u2 u3 u4 u5 u6 u7) G G9 ∧ (((a0 < 0 ∨ b0 < a0) ∧ moQ Z G9 mo u1 u2 u3 u4 u5 u6 u7 1 C E M D fl tp pt pd) ∨ (∃ f t, a0 = nI f ∧ b0 = nI t ∧ f ≤ t ∧ t < 2 ^ 31 ∧ moQ Z G9 mo u1 u2 u3 u4 u5 u6 u7 0 C E M D fl tp pt pd ∧ r = (sgC (nI D) tp fl C E pt pd f (min t 23 + 1 - f)).toInt64))) (gW Z G sz) (gA G sz)) 0 0 (gA G sz) := by
  refine Met.ofW (cc := b_mo_signature) (maxL := 8) (ret := (some .long)) (by decide) rfl ?_
  intro p e s m args below meth c s₁ B hml hv
  obtain ⟨rfl, hsz, hG, hE⟩ := hv
  subst hsz
  have hx := B.exec
  have hb := B.bytes
  have hr := B.returns
  have hlocks := B.notSynchronized
  have S : CallFix p m c b_mo_signature 8 s _ Gall "PackSeedsModel" := ⟨hx, hb, hml, findClass_of_methodNamed B.named, fun w hw => atoms_spec (ws := wd_mo_signature :: Gall) B.pre w (List.mem_cons_of_mem _ hw)⟩
  have hG : gS (gA G s.heap.size) s.heap Z.1 cls G s.heap [] := gS.start hG
  have hl := lv_entry ([.ref mo, .int a0, .int b0]) (n := 8) (Nat.le_of_ble_eq_true rfl)
  rw [lg_entry_eq]
  generalize (lg_sl ([.ref mo, .int a0, .int b0]) ++ List.replicate (8 - (lg_sl ([.ref mo, .int a0, .int b0])).length) Slot.unset).toArray = ls at hl ⊢
  have hl : lv_has ls 8 [(0, .ref mo), (1, .int a0), (2, .int b0)] := hl
  have hK : gKe (moI mo u1 u2 u3 u4 u5 u6 u7) G G := gKe.rf
  obtain ⟨cf, mf, ff, gf, sf, tf, bf, hP, hR, hT, hC, hE8, hfl⟩ := hQ
  have hP0 := hP
  obtain ⟨hmo, hc1, hc2, hc3, hc4, hc5, hc6, hc7, n12, n45, n67⟩ := hP
  have hM24 := hR.1
  have hD1 := hT.1
  have hD16 := hT.2.1
  refine lv_aload_n hx hb d_mo_signature_0 rfl (lv_at hl 0 rfl) ?_
  refine lv_iload_n hx hb d_mo_signature_1 rfl (lv_at hl 1 rfl) ?_
  refine lv_if_lt (tgt := 10) hx hb d_mo_signature_2 (by decide) (fun c2 => ?_) (fun c2 => ?_)
  · refine lv_iconst (v := 1) hx hb d_mo_signature_10 (by decide) ?_
    refine lv_goto (tgt := 15) hx hb d_mo_signature_11 (by decide) ?_
    refine g_put S hE.1 hG hmo rfl in_mo ty_mo tyok_mo nm_mo 0 (by decide) tw_491 (fun _ h9 => h9) rfl (ty := .int) (by decide +kernel) rfl rfl (Nat.le_of_ble_eq_true rfl) d_mo_signature_15 (fun H locs hG => ?_)
    have hG : gS (gA G s.heap.size) s.heap Z.1 cls (gup G mo (.inr (4, [.int 1, .int (nI C), .int (nI E), .ref u1, .ref u2, .ref u3, .ref u4, .ref u5, .int (nI M), .int (nI D), .ref u6, .int fl, .ref u7]))) H locs := hG
    generalize eG15 : gup G mo (.inr (4, [.int 1, .int (nI C), .int (nI E), .ref u1, .ref u2, .ref u3, .ref u4, .ref u5, .int (nI M), .int (nI D), .ref u6, .int fl, .ref u7])) = G15 at hG
    have f15_u1 : G15 u1 = some (.inl (Z.2 1, 768, .inl cf)) := by rw [← eG15]; exact gup_keep hmo hc1 (by simp)
    have f15_u2 : G15 u2 = some (.inl (Z.2 2, 768, .inl mf)) := by rw [← eG15]; exact gup_keep hmo hc2 (by simp)
    have f15_u3 : G15 u3 = some (.inl (Z.2 2, 744, .inl ff)) := by rw [← eG15]; exact gup_keep hmo hc3 (by simp)
    have f15_u4 : G15 u4 = some (.inl (Z.2 2, 24, .inl gf)) := by rw [← eG15]; exact gup_keep hmo hc4 (by simp)
    have f15_u5 : G15 u5 = some (.inl (Z.2 1, 24, .inl sf)) := by rw [← eG15]; exact gup_keep hmo hc5 (by simp)
    have f15_u6 : G15 u6 = some (.inl (Z.2 2, 16, .inl tf)) := by rw [← eG15]; exact gup_keep hmo hc6 (by simp)
    have f15_u7 : G15 u7 = some (.inl (Z.2 1, 16, .inl bf)) := by rw [← eG15]; exact gup_keep hmo hc7 (by simp)
    have f15 : G15 mo = some (.inr (4, [.int 1, .int (nI C), .int (nI E), .ref u1, .ref u2, .ref u3, .ref u4, .ref u5, .int (nI M), .int (nI D), .ref u6, .int fl, .ref u7])) := by rw [← eG15]; exact gup_self _ _ _
    have hK : gKe (moI mo u1 u2 u3 u4 u5 u6 u7) G G15 := by rw [← eG15]; exact hK.up (by simp [moI])
    refine lv_iconst (v := 0) hx hb d_mo_signature_18 (by decide) ?_
    refine lv_istore_n (lv' := [(3, .int 0), (0, .ref mo), (1, .int a0), (2, .int b0)]) hx hb d_mo_signature_19 rfl hl (by decide) rfl (fun ls hl => ?_)
    refine lv_iload_n hx hb d_mo_signature_20 rfl (lv_at hl 2 rfl) ?_
    refine lv_istore (lv' := [(4, .int a0), (3, .int 0), (0, .ref mo), (1, .int a0), (2, .int b0)]) hx hb d_mo_signature_21 hl (by decide) rfl (fun ls hl => ?_)
    refine lv_aload_n hx hb d_mo_signature_23 rfl (lv_at hl 2 rfl) ?_
    refine g_get S hE.1 hG.1 f15 rfl in_mo 0 (by decide) tw_491 (fun _ h9 => h9) rfl d_mo_signature_24 ?_
    refine lv_if_ne (tgt := 151) hx hb d_mo_signature_27 (by decide) (fun c27 => ?_) (fun c27 => absurd c27 (by decide))
    refine lv_iload_n hx hb d_mo_signature_151 rfl (lv_at hl 1 rfl) ?_
    refine lv_i2l hx hb d_mo_signature_152 rfl ?_
    refine W.widen (k := 0) (n := 0) (Nat.le_of_ble_eq_true rfl) (Nat.le_of_ble_eq_true rfl) ?_
    exact (W.lret hx hb hr (fun t9 ht9 hW9 => ⟨⟨_, _, rfl, ⟨hK, Or.inl ⟨(by first | exact Or.inl c2 | exact Or.inr (Int32.not_le.mp c7)), ⟨_, _, _, _, _, _, _, ⟨f15, f15_u1, f15_u2, f15_u3, f15_u4, f15_u5, f15_u6, f15_u7, n12, n45, n67⟩, hR, hT, hC, hE8, hfl⟩⟩⟩, by rw [ht9]; exact hG.1, hG.2.1⟩, hG.2.2.1.F ht9⟩) hG.2.2.1.2.2 d_mo_signature_153)
  · refine lv_iload_n hx hb d_mo_signature_5 rfl (lv_at hl 2 rfl) ?_
    refine lv_iload_n hx hb d_mo_signature_6 rfl (lv_at hl 1 rfl) ?_
    refine lv_icmp_ge (tgt := 14) hx hb d_mo_signature_7 (by decide) (fun c7 => ?_) (fun c7 => ?_)
    · refine lv_iconst (v := 0) hx hb d_mo_signature_14 (by decide) ?_
      refine g_put S hE.1 hG hmo rfl in_mo ty_mo tyok_mo nm_mo 0 (by decide) tw_491 (fun _ h9 => h9) rfl (ty := .int) (by decide +kernel) rfl rfl (Nat.le_of_ble_eq_true rfl) d_mo_signature_15 (fun H locs hG => ?_)
      have hG : gS (gA G s.heap.size) s.heap Z.1 cls (gup G mo (.inr (4, [.int 0, .int (nI C), .int (nI E), .ref u1, .ref u2, .ref u3, .ref u4, .ref u5, .int (nI M), .int (nI D), .ref u6, .int fl, .ref u7]))) H locs := hG
      generalize eG15 : gup G mo (.inr (4, [.int 0, .int (nI C), .int (nI E), .ref u1, .ref u2, .ref u3, .ref u4, .ref u5, .int (nI M), .int (nI D), .ref u6, .int fl, .ref u7])) = G15 at hG
      have f15_u1 : G15 u1 = some (.inl (Z.2 1, 768, .inl cf)) := by rw [← eG15]; exact gup_keep hmo hc1 (by simp)
      have f15_u2 : G15 u2 = some (.inl (Z.2 2, 768, .inl mf)) := by rw [← eG15]; exact gup_keep hmo hc2 (by simp)
      have f15_u3 : G15 u3 = some (.inl (Z.2 2, 744, .inl ff)) := by rw [← eG15]; exact gup_keep hmo hc3 (by simp)
      have f15_u4 : G15 u4 = some (.inl (Z.2 2, 24, .inl gf)) := by rw [← eG15]; exact gup_keep hmo hc4 (by simp)
      have f15_u5 : G15 u5 = some (.inl (Z.2 1, 24, .inl sf)) := by rw [← eG15]; exact gup_keep hmo hc5 (by simp)
      have f15_u6 : G15 u6 = some (.inl (Z.2 2, 16, .inl tf)) := by rw [← eG15]; exact gup_keep hmo hc6 (by simp)
      have f15_u7 : G15 u7 = some (.inl (Z.2 1, 16, .inl bf)) := by rw [← eG15]; exact gup_keep hmo hc7 (by simp)
      have f15 : G15 mo = some (.inr (4, [.int 0, .int (nI C), .int (nI E), .ref u1, .ref u2, .ref u3, .ref u4, .ref u5, .int (nI M), .int (nI D), .ref u6, .int fl, .ref u7])) := by rw [← eG15]; exact gup_self _ _ _
      have hK : gKe (moI mo u1 u2 u3 u4 u5 u6 u7) G G15 := by rw [← eG15]; exact hK.up (by simp [moI])
      obtain ⟨f, hf31, ef⟩ := nn_of c2
      obtain ⟨t, ht31, et⟩ := nn_of (x := b0) (by intro h9; rw [ef] at c7; rw [Int32.lt_iff_toInt_lt, Int32.toInt_zero] at h9; rw [Int32.le_iff_toInt_le, nI_toInt hf31] at c7; omega)
      subst ef
      subst et
      have hft : f ≤ t := (nI_leI hf31 ht31).mp c7
      refine lv_iconst (v := 0) hx hb d_mo_signature_18 (by decide) ?_
      refine lv_istore_n (lv' := [(3, .int 0), (0, .ref mo), (1, .int (nI f)), (2, .int (nI t))]) hx hb d_mo_signature_19 rfl hl (by decide) rfl (fun ls hl => ?_)
      refine lv_iload_n hx hb d_mo_signature_20 rfl (lv_at hl 2 rfl) ?_
      refine lv_istore (lv' := [(4, .int (nI f)), (3, .int 0), (0, .ref mo), (1, .int (nI f)), (2, .int (nI t))]) hx hb d_mo_signature_21 hl (by decide) rfl (fun ls hl => ?_)
      refine g_ind (V := Nat × Int32) (fun (k, a) ls => ((k = 0 ∨ f + k ≤ M) ∧ k ≤ t + 1 - f ∧ a = sgC (nI D) tp fl C E pt pd f k) ∧ lv_has ls 8 [(0, .ref mo), (1, .int (nI f)), (2, .int (nI t)), (3, .int a), (4, .int (nI (f + k)))]) (fun (k, a) => 24 + 1 - k) ?_ (0, 0) _ ⟨⟨Or.inl rfl, Nat.zero_le _, rfl⟩, lv_sub hl [2, 3, 4, 1, 0] rfl⟩
      intro v ls hI ih23
      obtain ⟨k, a⟩ := v
      obtain ⟨⟨hkM, hkt, ha⟩, hl⟩ := hI
      refine lv_aload_n hx hb d_mo_signature_23 rfl (lv_at hl 0 rfl) ?_
      refine g_get S hE.1 hG.1 f15 rfl in_mo 0 (by decide) tw_491 (fun _ h9 => h9) rfl d_mo_signature_24 ?_
      refine lv_if_ne (tgt := 151) hx hb d_mo_signature_27 (by decide) (fun c27 => absurd c27 (by decide)) (fun c27 => ?_)
      refine lv_iload hx hb d_mo_signature_30 (lv_at hl 4 rfl) ?_
      refine lv_aload_n hx hb d_mo_signature_32 rfl (lv_at hl 0 rfl) ?_
      refine g_get S hE.1 hG.1 f15 rfl in_mo 8 (by decide) tw_499 (fun _ h9 => h9) rfl d_mo_signature_33 ?_
      refine g_ge (tgt := 151) hx hb d_mo_signature_36 (by decide) (by omega) (by omega) (fun c36 => ?_) (fun c36 => ?_)
      · refine lv_iload_n hx hb d_mo_signature_151 rfl (lv_at hl 3 rfl) ?_
        refine lv_i2l hx hb d_mo_signature_152 rfl ?_
        refine W.widen (k := 0) (n := 0) (Nat.le_of_ble_eq_true rfl) (Nat.le_of_ble_eq_true rfl) ?_
        exact (W.lret hx hb hr (fun t9 ht9 hW9 => ⟨⟨_, _, rfl, ⟨hK, Or.inr ⟨f, t, rfl, rfl, hft, ht31, ⟨_, _, _, _, _, _, _, ⟨f15, f15_u1, f15_u2, f15_u3, f15_u4, f15_u5, f15_u6, f15_u7, n12, n45, n67⟩, hR, hT, hC, hE8, hfl⟩, by rw [ha]; exact congrArg Int32.toInt64 (sg_stop hR (by omega) (by omega))⟩⟩, by rw [ht9]; exact hG.1, hG.2.1⟩, hG.2.2.1.F ht9⟩) hG.2.2.1.2.2 d_mo_signature_153)
      · refine lv_iload hx hb d_mo_signature_39 (lv_at hl 4 rfl) ?_
        refine lv_iload_n hx hb d_mo_signature_41 rfl (lv_at hl 2 rfl) ?_
        refine g_gt (tgt := 151) hx hb d_mo_signature_42 (by decide) (by omega) (by omega) (fun c42 => ?_) (fun c42 => ?_)
        · refine lv_iload_n hx hb d_mo_signature_151 rfl (lv_at hl 3 rfl) ?_
          refine lv_i2l hx hb d_mo_signature_152 rfl ?_
          refine W.widen (k := 0) (n := 0) (Nat.le_of_ble_eq_true rfl) (Nat.le_of_ble_eq_true rfl) ?_
          exact (W.lret hx hb hr (fun t9 ht9 hW9 => ⟨⟨_, _, rfl, ⟨hK, Or.inr ⟨f, t, rfl, rfl, hft, ht31, ⟨_, _, _, _, _, _, _, ⟨f15, f15_u1, f15_u2, f15_u3, f15_u4, f15_u5, f15_u6, f15_u7, n12, n45, n67⟩, hR, hT, hC, hE8, hfl⟩, by rw [ha]; exact congrArg Int32.toInt64 (sg_stop hR (by omega) (by omega))⟩⟩, by rw [ht9]; exact hG.1, hG.2.1⟩, hG.2.2.1.F ht9⟩) hG.2.2.1.2.2 d_mo_signature_153)
        · refine lv_aload_n hx hb d_mo_signature_45 rfl (lv_at hl 0 rfl) ?_
          refine g_get S hE.1 hG.1 f15 rfl in_mo 2 (by decide) tw_493 (fun _ h9 => h9) rfl d_mo_signature_46 ?_
          refine lv_iconst (v := 1) hx hb d_mo_signature_49 (by decide) ?_
          refine lv_isub hx hb d_mo_signature_50 ?_
          refine g_topi (y := dn E) (dn_sub1 E) ?_
          refine lv_istore (lv' := [(5, .int (dn E)), (0, .ref mo), (1, .int (nI f)), (2, .int (nI t)), (3, .int a), (4, .int (nI (f + k)))]) hx hb d_mo_signature_51 hl (by decide) rfl (fun ls hl => ?_)
          refine g_ind (V := Nat × Int32) (fun (j, st) ls => (j ≤ E ∧ ((¬ gf (f + k) = 0 ∧ st = a) ∨ (gf (f + k) = 0 ∧ st = tkC (nI D) tp C E ((bitsC (nI D) tp fl C E (pd (f + k))) &&& (pmk (pd (f + k)) ^^^ (-1))) a (E - j)))) ∧ lv_has ls 8 [(0, .ref mo), (1, .int (nI f)), (2, .int (nI t)), (3, .int st), (4, .int (nI (f + k))), (5, .int (dn j))]) (fun (j, st) => j) ?_ (E, a) _ ⟨⟨Nat.le_refl _, by by_cases z : gf (f + k) = 0; exact Or.inr ⟨z, by rw [Nat.sub_self]; rfl⟩; exact Or.inl ⟨z, rfl⟩⟩, lv_sub hl [1, 2, 3, 4, 5, 0] rfl⟩
          intro v ls hI ih53
          obtain ⟨j, st⟩ := v
          obtain ⟨⟨hj, hst⟩, hl⟩ := hI
          cases j with
          | zero =>
            have hl : lv_has ls 8 [(0, .ref mo), (1, .int (nI f)), (2, .int (nI t)), (3, .int st), (4, .int (nI (f + k))), (5, .int (-1))] := hl
            refine lv_iload hx hb d_mo_signature_53 (lv_at hl 5 rfl) ?_
            refine lv_if_lt (tgt := 145) hx hb d_mo_signature_55 (by decide) (fun c55 => ?_) (fun c55 => absurd c55 (by decide))
            refine lv_iinc (v := nI ((f + k) + 1)) (lv' := [(4, .int (nI ((f + k) + 1))), (0, .ref mo), (1, .int (nI f)), (2, .int (nI t)), (3, .int st), (5, .int (-1))]) hx hb d_mo_signature_145 hl (k := 4) rfl (show nI (f + k) + 1 = _ from nI_1 (f + k)) (by decide) rfl (fun ls hl => ?_)
            refine lv_goto (tgt := 23) hx hb d_mo_signature_148 (by decide) ?_
            exact ih23 ((k + 1), st) _ ⟨⟨Or.inr (by omega), by omega, by
                have e0 : sgC (nI D) tp fl C E pt pd f (k + 1) = if (prN pt pd (f + k)).isSome then tkC (nI D) tp C E ((bitsC (nI D) tp fl C E (pd (f + k))) &&& (pmk (pd (f + k)) ^^^ (-1))) (sgC (nI D) tp fl C E pt pd f k) E else sgC (nI D) tp fl C E pt pd f k := rfl
                rw [e0, ← ha]
                have hpr := hR.pr (show f + k < 24 by omega)
                rcases hst with z | z
                · rw [if_neg (fun y => z.1 (hpr.mp y).2)]; exact z.2
                · rw [if_pos (hpr.mpr ⟨by omega, z.1⟩)]; first | (rw [z.2]; done) | exact z.2 | exact absurd z.1 c65⟩, lv_sub hl [1, 2, 3, 4, 0] rfl⟩ (by first | omega | (simp only []; omega))
          | succ q =>
            have hl : lv_has ls 8 [(0, .ref mo), (1, .int (nI f)), (2, .int (nI t)), (3, .int st), (4, .int (nI (f + k))), (5, .int (nI q))] := hl
            refine lv_iload hx hb d_mo_signature_53 (lv_at hl 5 rfl) ?_
            refine lv_if_lt (tgt := 145) hx hb d_mo_signature_55 (by decide) (fun c55 => absurd c55 (nI_pos (by omega))) (fun c55 => ?_)
            refine lv_aload_n hx hb d_mo_signature_58 rfl (lv_at hl 0 rfl) ?_
            refine g_get S hE.1 hG.1 f15 rfl in_mo 6 (by decide) tw_497 (fun _ h9 => h9) rfl d_mo_signature_59 ?_
            refine lv_iload hx hb d_mo_signature_62 (lv_at hl 4 rfl) ?_
            refine g_zald S hE.1 hG.1 f15_u4 2 rfl (vp_in_nI (by omega) (by omega)) d_mo_signature_64 ?_
            refine g_topi (congrArg gf (nI_clamp (show (f + k) < 2 ^ 31 by omega))) ?_
            refine lv_if_ne (tgt := 145) hx hb d_mo_signature_65 (by decide) (fun c65 => ?_) (fun c65 => ?_)
            · refine lv_iinc (v := nI ((f + k) + 1)) (lv' := [(4, .int (nI ((f + k) + 1))), (0, .ref mo), (1, .int (nI f)), (2, .int (nI t)), (3, .int st), (5, .int (nI q))]) hx hb d_mo_signature_145 hl (k := 4) rfl (show nI (f + k) + 1 = _ from nI_1 (f + k)) (by decide) rfl (fun ls hl => ?_)
              refine lv_goto (tgt := 23) hx hb d_mo_signature_148 (by decide) ?_
              exact ih23 ((k + 1), st) _ ⟨⟨Or.inr (by omega), by omega, by
                  have e0 : sgC (nI D) tp fl C E pt pd f (k + 1) = if (prN pt pd (f + k)).isSome then tkC (nI D) tp C E ((bitsC (nI D) tp fl C E (pd (f + k))) &&& (pmk (pd (f + k)) ^^^ (-1))) (sgC (nI D) tp fl C E pt pd f k) E else sgC (nI D) tp fl C E pt pd f k := rfl
                  rw [e0, ← ha]
                  have hpr := hR.pr (show f + k < 24 by omega)
                  rcases hst with z | z
                  · rw [if_neg (fun y => z.1 (hpr.mp y).2)]; exact z.2
                  · rw [if_pos (hpr.mpr ⟨by omega, z.1⟩)]; first | (rw [z.2]; done) | exact z.2 | exact absurd z.1 c65⟩, lv_sub hl [1, 2, 3, 4, 0] rfl⟩ (by first | omega | (simp only []; omega))
            · refine lv_aload_n hx hb d_mo_signature_68 rfl (lv_at hl 0 rfl) ?_
              refine lv_iload_n hx hb d_mo_signature_69 rfl (lv_at hl 3 rfl) ?_
              refine g_reti (g_runV (As := [.int st]) (rest := []) S lk_mo_74 k_mo_step (c_mo_step l Z G15 mo ⟨f15, f15_u1, f15_u2, f15_u3, f15_u4, f15_u5, f15_u6, f15_u7, n12, n45, n67⟩ hT st) ⟨rfl, rfl⟩ ⟨Nat.le_of_ble_eq_true rfl, Nat.le_of_ble_eq_true rfl⟩ (gPreV hG.1 hE f15 rfl) rfl hl.1 rfl (Nat.le_of_ble_eq_true rfl) d_mo_signature_70 ⟨Nat.le_of_ble_eq_true rfl, Nat.le_of_ble_eq_true rfl⟩) (fun r70 h70 => ?_)
              refine lv_istore_n (lv' := [(3, .int r70), (0, .ref mo), (1, .int (nI f)), (2, .int (nI t)), (4, .int (nI (f + k))), (5, .int (nI q))]) hx hb d_mo_signature_73 rfl hl (by decide) rfl (fun ls hl => ?_)
              refine lv_iconst (v := nI 0) hx hb d_mo_signature_74 (by decide) ?_
              refine lv_istore (lv' := [(6, .int (nI 0)), (3, .int r70), (0, .ref mo), (1, .int (nI f)), (2, .int (nI t)), (4, .int (nI (f + k))), (5, .int (nI q))]) hx hb d_mo_signature_75 hl (by decide) rfl (fun ls hl => ?_)
              refine g_ind (V := Nat × Int32) (fun (c, b) ls => (c ≤ C ∧ b = tkI (nI D) E (E - (q + 1)) ((bitsC (nI D) tp fl C E (pd (f + k))) &&& (pmk (pd (f + k)) ^^^ (-1))) r70 c) ∧ lv_has ls 8 [(0, .ref mo), (1, .int (nI f)), (2, .int (nI t)), (3, .int b), (4, .int (nI (f + k))), (5, .int (nI q)), (6, .int (nI c))]) (fun (c, b) => C - c) ?_ (0, r70) _ ⟨⟨Nat.zero_le _, rfl⟩, lv_sub hl [2, 3, 4, 1, 5, 6, 0] rfl⟩
              intro v ls hI ih77
              obtain ⟨c, b⟩ := v
              obtain ⟨⟨hc, hbb⟩, hl⟩ := hI
              refine lv_iload hx hb d_mo_signature_77 (lv_at hl 6 rfl) ?_
              refine lv_aload_n hx hb d_mo_signature_79 rfl (lv_at hl 0 rfl) ?_
              refine g_get S hE.1 hG.1 f15 rfl in_mo 1 (by decide) tw_492 (fun _ h9 => h9) rfl d_mo_signature_80 ?_
              refine g_ge (tgt := 139) hx hb d_mo_signature_83 (by decide) (by omega) (by omega) (fun c83 => ?_) (fun c83 => ?_)
              · refine lv_iinc (v := dn q) (lv' := [(5, .int (dn q)), (0, .ref mo), (1, .int (nI f)), (2, .int (nI t)), (3, .int b), (4, .int (nI (f + k))), (6, .int (nI c))]) hx hb d_mo_signature_139 hl (k := 5) rfl (dn_pred q) (by decide) rfl (fun ls hl => ?_)
                refine lv_goto (tgt := 53) hx hb d_mo_signature_142 (by decide) ?_
                exact ih53 (q, b) _ ⟨⟨by omega, Or.inr ⟨c65, by
                    rcases hst with z | z
                    · exact absurd c65 z.1
                    · rw [hbb, h70, z.2, show c = C by omega, show E - q = (E - (q + 1)) + 1 by omega]; rfl⟩⟩, lv_sub hl [1, 2, 3, 4, 5, 0] rfl⟩ (by first | omega | (simp only []; omega))
              · refine lv_aload_n hx hb d_mo_signature_86 rfl (lv_at hl 0 rfl) ?_
                refine g_get S hE.1 hG.1 f15 rfl in_mo 4 (by decide) tw_495 (fun _ h9 => h9) rfl d_mo_signature_87 ?_
                refine lv_aload_n hx hb d_mo_signature_90 rfl (lv_at hl 0 rfl) ?_
                refine lv_iload hx hb d_mo_signature_91 (lv_at hl 4 rfl) ?_
                refine lv_iload hx hb d_mo_signature_93 (lv_at hl 6 rfl) ?_
                refine lv_iload hx hb d_mo_signature_95 (lv_at hl 5 rfl) ?_
                refine g_reti (g_runV (As := [.int (nI (f + k)), .int (nI c), .int (nI q)]) (rest := [.ref u2]) S lk_mo_56 k_mo_place (c_mo_place l Z G15 mo (f + k) c q) ⟨rfl, rfl⟩ ⟨Nat.le_of_ble_eq_true rfl, Nat.le_of_ble_eq_true rfl⟩ (gPreV hG.1 hE f15 rfl) rfl hl.1 rfl (Nat.le_of_ble_eq_true rfl) d_mo_signature_97 ⟨Nat.le_of_ble_eq_true rfl, Nat.le_of_ble_eq_true rfl⟩) (fun r97 h97 => ?_)
                refine g_topi (y := nI (32 * (f + k) + (8 * c + q))) h97 ?_
                refine g_zald S hE.1 hG.1 f15_u2 2 rfl (vp_in_nI (by omega) (by omega)) d_mo_signature_100 ?_
                refine g_topi (congrArg mf (nI_clamp (show (32 * (f + k) + (8 * c + q)) < 2 ^ 31 by omega))) ?_
                refine lv_if_eq (tgt := 108) hx hb d_mo_signature_101 (by decide) (fun c101 => ?_) (fun c101 => ?_)
                · refine lv_aload_n hx hb d_mo_signature_108 rfl (lv_at hl 0 rfl) ?_
                  refine lv_iload hx hb d_mo_signature_109 (lv_at hl 4 rfl) ?_
                  refine lv_iload hx hb d_mo_signature_111 (lv_at hl 6 rfl) ?_
                  refine lv_iload hx hb d_mo_signature_113 (lv_at hl 5 rfl) ?_
                  refine g_reti (g_runV (As := [.int (nI (f + k)), .int (nI c), .int (nI q)]) (rest := []) S lk_mo_86 k_mo_bitOf (c_mo_bitOf l Z G15 mo ⟨f15, f15_u1, f15_u2, f15_u3, f15_u4, f15_u5, f15_u6, f15_u7, n12, n45, n67⟩ hR hT hC hE8 hfl (f + k) (by omega) c65 c q (by omega) (by omega)) ⟨rfl, rfl⟩ ⟨Nat.le_of_ble_eq_true rfl, Nat.le_of_ble_eq_true rfl⟩ (gPreV hG.1 hE f15 rfl) rfl hl.1 rfl (Nat.le_of_ble_eq_true rfl) d_mo_signature_115 ⟨Nat.le_of_ble_eq_true rfl, Nat.le_of_ble_eq_true rfl⟩) (fun r115 h115 => ?_)
                  refine lv_istore (lv' := [(7, .int r115), (0, .ref mo), (1, .int (nI f)), (2, .int (nI t)), (3, .int b), (4, .int (nI (f + k))), (5, .int (nI q)), (6, .int (nI c))]) hx hb d_mo_signature_118 hl (by decide) rfl (fun ls hl => ?_)
                  refine lv_iload_n hx hb d_mo_signature_120 rfl (lv_at hl 4 rfl) ?_
                  refine lv_iload hx hb d_mo_signature_121 (lv_at hl 0 rfl) ?_
                  refine lv_iload hx hb d_mo_signature_123 (lv_at hl 7 rfl) ?_
                  refine lv_aload_n hx hb d_mo_signature_125 rfl (lv_at hl 1 rfl) ?_
                  refine g_get S hE.1 hG.1 f15 rfl in_mo 9 (by decide) tw_500 (fun _ h9 => h9) rfl d_mo_signature_126 ?_
                  refine lv_irem hx hb d_mo_signature_129 (nI_ne0 (by omega) (by omega)) ?_
                  refine g_topi (y := nI (c % D)) (pk_rem (by omega) (by omega) (by omega)) ?_
                  refine lv_ishl hx hb d_mo_signature_130 ?_
                  refine lv_ixor hx hb d_mo_signature_131 ?_
                  refine lv_topi (fun x132 e132 => ?_)
                  refine lv_istore_n (lv' := [(3, .int x132), (7, .int r115), (0, .ref mo), (1, .int (nI f)), (2, .int (nI t)), (4, .int (nI (f + k))), (5, .int (nI q)), (6, .int (nI c))]) hx hb d_mo_signature_132 rfl hl (by decide) rfl (fun ls hl => ?_)
                  refine lv_iinc (v := nI (c + 1)) (lv' := [(6, .int (nI (c + 1))), (3, .int x132), (7, .int r115), (0, .ref mo), (1, .int (nI f)), (2, .int (nI t)), (4, .int (nI (f + k))), (5, .int (nI q))]) hx hb d_mo_signature_133 hl (k := 7) rfl (show nI c + 1 = _ from nI_1 c) (by decide) rfl (fun ls hl => ?_)
                  refine lv_goto (tgt := 77) hx hb d_mo_signature_136 (by decide) ?_
                  exact ih77 ((c + 1), x132) _ ⟨⟨by omega, by
                      simp only [tkI, itr_s]; rw [← tkI, ← hbb]
                      have hS9 := hR.2.2.2.2.1 (f + k) (by omega) c65
                      have hm9 := hS9.2.2.1 (8 * c + q) (by omega)
                      rw [e132]
                      first | (refine tk_in hD1 hD16 hE8 (by omega) (by omega) rfl ?_; rw [hm9, zb_eq] at c101; rw [h115, tb_and, tb_not _ (by omega), c101]; simp; done) | (refine tk_in hD1 hD16 hE8 (by omega) (by omega) rfl ?_; rw [hm9, zb_eq] at c101; rw [tb_and, tb_not _ (by omega), show tb (pmk (pd (f + k))) (8 * c + q) = true by simpa using c101]; simp [zb])⟩, lv_sub hl [3, 4, 5, 1, 6, 7, 0] rfl⟩ (by first | omega | (simp only []; omega))
                · refine lv_iconst (v := 0) hx hb d_mo_signature_104 (by decide) ?_
                  refine lv_goto (tgt := 118) hx hb d_mo_signature_105 (by decide) ?_
                  refine lv_istore (lv' := [(7, .int 0), (0, .ref mo), (1, .int (nI f)), (2, .int (nI t)), (3, .int b), (4, .int (nI (f + k))), (5, .int (nI q)), (6, .int (nI c))]) hx hb d_mo_signature_118 hl (by decide) rfl (fun ls hl => ?_)
                  refine lv_iload_n hx hb d_mo_signature_120 rfl (lv_at hl 4 rfl) ?_
                  refine lv_iload hx hb d_mo_signature_121 (lv_at hl 0 rfl) ?_
                  refine lv_iload hx hb d_mo_signature_123 (lv_at hl 7 rfl) ?_
                  refine lv_aload_n hx hb d_mo_signature_125 rfl (lv_at hl 1 rfl) ?_
                  refine g_get S hE.1 hG.1 f15 rfl in_mo 9 (by decide) tw_500 (fun _ h9 => h9) rfl d_mo_signature_126 ?_
                  refine lv_irem hx hb d_mo_signature_129 (nI_ne0 (by omega) (by omega)) ?_
                  refine g_topi (y := nI (c % D)) (pk_rem (by omega) (by omega) (by omega)) ?_
                  refine lv_ishl hx hb d_mo_signature_130 ?_
                  refine lv_ixor hx hb d_mo_signature_131 ?_
                  refine lv_topi (fun x132 e132 => ?_)
                  refine lv_istore_n (lv' := [(3, .int x132), (7, .int 0), (0, .ref mo), (1, .int (nI f)), (2, .int (nI t)), (4, .int (nI (f + k))), (5, .int (nI q)), (6, .int (nI c))]) hx hb d_mo_signature_132 rfl hl (by decide) rfl (fun ls hl => ?_)
                  refine lv_iinc (v := nI (c + 1)) (lv' := [(6, .int (nI (c + 1))), (3, .int x132), (7, .int 0), (0, .ref mo), (1, .int (nI f)), (2, .int (nI t)), (4, .int (nI (f + k))), (5, .int (nI q))]) hx hb d_mo_signature_133 hl (k := 7) rfl (show nI c + 1 = _ from nI_1 c) (by decide) rfl (fun ls hl => ?_)
                  refine lv_goto (tgt := 77) hx hb d_mo_signature_136 (by decide) ?_
                  exact ih77 ((c + 1), x132) _ ⟨⟨by omega, by
                      simp only [tkI, itr_s]; rw [← tkI, ← hbb]
                      have hS9 := hR.2.2.2.2.1 (f + k) (by omega) c65
                      have hm9 := hS9.2.2.1 (8 * c + q) (by omega)
                      rw [e132]
                      first | (refine tk_in hD1 hD16 hE8 (by omega) (by omega) rfl ?_; rw [hm9, zb_eq] at c101; rw [h115, tb_and, tb_not _ (by omega), c101]; simp; done) | (refine tk_in hD1 hD16 hE8 (by omega) (by omega) rfl ?_; rw [hm9, zb_eq] at c101; rw [tb_and, tb_not _ (by omega), show tb (pmk (pd (f + k))) (8 * c + q) = true by simpa using c101]; simp [zb])⟩, lv_sub hl [3, 4, 5, 1, 6, 7, 0] rfl⟩ (by first | omega | (simp only []; omega))
    · refine lv_iconst (v := 1) hx hb d_mo_signature_10 (by decide) ?_
      refine lv_goto (tgt := 15) hx hb d_mo_signature_11 (by decide) ?_
      refine g_put S hE.1 hG hmo rfl in_mo ty_mo tyok_mo nm_mo 0 (by decide) tw_491 (fun _ h9 => h9) rfl (ty := .int) (by decide +kernel) rfl rfl (Nat.le_of_ble_eq_true rfl) d_mo_signature_15 (fun H locs hG => ?_)
      have hG : gS (gA G s.heap.size) s.heap Z.1 cls (gup G mo (.inr (4, [.int 1, .int (nI C), .int (nI E), .ref u1, .ref u2, .ref u3, .ref u4, .ref u5, .int (nI M), .int (nI D), .ref u6, .int fl, .ref u7]))) H locs := hG
      generalize eG15 : gup G mo (.inr (4, [.int 1, .int (nI C), .int (nI E), .ref u1, .ref u2, .ref u3, .ref u4, .ref u5, .int (nI M), .int (nI D), .ref u6, .int fl, .ref u7])) = G15 at hG
      have f15_u1 : G15 u1 = some (.inl (Z.2 1, 768, .inl cf)) := by rw [← eG15]; exact gup_keep hmo hc1 (by simp)
      have f15_u2 : G15 u2 = some (.inl (Z.2 2, 768, .inl mf)) := by rw [← eG15]; exact gup_keep hmo hc2 (by simp)
      have f15_u3 : G15 u3 = some (.inl (Z.2 2, 744, .inl ff)) := by rw [← eG15]; exact gup_keep hmo hc3 (by simp)
      have f15_u4 : G15 u4 = some (.inl (Z.2 2, 24, .inl gf)) := by rw [← eG15]; exact gup_keep hmo hc4 (by simp)
      have f15_u5 : G15 u5 = some (.inl (Z.2 1, 24, .inl sf)) := by rw [← eG15]; exact gup_keep hmo hc5 (by simp)
      have f15_u6 : G15 u6 = some (.inl (Z.2 2, 16, .inl tf)) := by rw [← eG15]; exact gup_keep hmo hc6 (by simp)
      have f15_u7 : G15 u7 = some (.inl (Z.2 1, 16, .inl bf)) := by rw [← eG15]; exact gup_keep hmo hc7 (by simp)
      have f15 : G15 mo = some (.inr (4, [.int 1, .int (nI C), .int (nI E), .ref u1, .ref u2, .ref u3, .ref u4, .ref u5, .int (nI M), .int (nI D), .ref u6, .int fl, .ref u7])) := by rw [← eG15]; exact gup_self _ _ _
      have hK : gKe (moI mo u1 u2 u3 u4 u5 u6 u7) G G15 := by rw [← eG15]; exact hK.up (by simp [moI])
      refine lv_iconst (v := 0) hx hb d_mo_signature_18 (by decide) ?_
      refine lv_istore_n (lv' := [(3, .int 0), (0, .ref mo), (1, .int a0), (2, .int b0)]) hx hb d_mo_signature_19 rfl hl (by decide) rfl (fun ls hl => ?_)
      refine lv_iload_n hx hb d_mo_signature_20 rfl (lv_at hl 2 rfl) ?_
      refine lv_istore (lv' := [(4, .int a0), (3, .int 0), (0, .ref mo), (1, .int a0), (2, .int b0)]) hx hb d_mo_signature_21 hl (by decide) rfl (fun ls hl => ?_)
      refine lv_aload_n hx hb d_mo_signature_23 rfl (lv_at hl 2 rfl) ?_
      refine g_get S hE.1 hG.1 f15 rfl in_mo 0 (by decide) tw_491 (fun _ h9 => h9) rfl d_mo_signature_24 ?_
      refine lv_if_ne (tgt := 151) hx hb d_mo_signature_27 (by decide) (fun c27 => ?_) (fun c27 => absurd c27 (by decide))
      refine lv_iload_n hx hb d_mo_signature_151 rfl (lv_at hl 1 rfl) ?_
      refine lv_i2l hx hb d_mo_signature_152 rfl ?_
      refine W.widen (k := 0) (n := 0) (Nat.le_of_ble_eq_true rfl) (Nat.le_of_ble_eq_true rfl) ?_
      exact (W.lret hx hb hr (fun t9 ht9 hW9 => ⟨⟨_, _, rfl, ⟨hK, Or.inl ⟨(by first | exact Or.inl c2 | exact Or.inr (Int32.not_le.mp c7)), ⟨_, _, _, _, _, _, _, ⟨f15, f15_u1, f15_u2, f15_u3, f15_u4, f15_u5, f15_u6, f15_u7, n12, n45, n67⟩, hR, hT, hC, hE8, hfl⟩⟩⟩, by rw [ht9]; exact hG.1, hG.2.1⟩, hG.2.2.1.F ht9⟩) hG.2.2.1.2.2 d_mo_signature_153)

set_option maxHeartbeats 600000 in
set_option maxRecDepth 100000 in
theorem c_mo_rank (l : Launch) (Z : gZ) (G : gh) (sz : Nat) (mo : Nat) {u1 u2 u3 u4 u5 u6 u7 : Nat} {th : Int32} {C E M D : Nat} {fl : Int32} {cf mf ff gf sf tf bf : Nat → Int32} (hP : moP Z G mo u1 u2 u3 u4 u5 u6 u7 th C E M D fl cf mf ff gf sf tf bf) {tp : Int32} (hT : simT D tp tf) (n : Nat) (hn : n ≤ 60) : Met l y_mo_rank (wd_mo_rank :: Gall) ({ frames := 1, cells := 0, slots := 0, locals := 23 }) (va_Pc [.ref mo, .int (nI n)] (gPw Z G sz)) (va_Qi (fun (r : Int32) (G9 : gh) => r = nI (min n D) ∧ ∃ b, gKe (moI mo u1 u2 u3 u4 u5 u6 u7) G G9 ∧ moP Z G9 mo u1 u2 u3 u4 u5 u6 u7 th C E M D fl cf mf ff gf sf tf b) (gW Z G sz) (gA G sz)) 0 0 (gA G sz) := by
  refine Met.ofW (cc := b_mo_rank) (maxL := 7) (ret := (some .int)) (by decide) rfl ?_
  intro p e s m args below meth c s₁ B hml hv
  obtain ⟨rfl, hsz, hG, hE⟩ := hv
  subst hsz
  have hx := B.exec
  have hb := B.bytes
  have hr := B.returns
  have hlocks := B.notSynchronized
  have S : CallFix p m c b_mo_rank 7 s _ Gall "PackSeedsModel" := ⟨hx, hb, hml, findClass_of_methodNamed B.named, fun w hw => atoms_spec (ws := wd_mo_rank :: Gall) B.pre w (List.mem_cons_of_mem _ hw)⟩
  have hG : gS (gA G s.heap.size) s.heap Z.1 cls G s.heap [] := gS.start hG
  have hl := lv_entry ([.ref mo, .int (nI n)]) (n := 7) (Nat.le_of_ble_eq_true rfl)
  rw [lg_entry_eq]
  generalize (lg_sl ([.ref mo, .int (nI n)]) ++ List.replicate (7 - (lg_sl ([.ref mo, .int (nI n)])).length) Slot.unset).toArray = ls at hl ⊢
  have hl : lv_has ls 7 [(0, .ref mo), (1, .int (nI n))] := hl
  have hK : gKe (moI mo u1 u2 u3 u4 u5 u6 u7) G G := gKe.rf
  have hP0 := hP
  obtain ⟨hmo, hc1, hc2, hc3, hc4, hc5, hc6, hc7, n12, n45, n67⟩ := hP
  have hD1 := hT.1
  have hD16 := hT.2.1
  refine lv_iconst (v := nI 0) hx hb d_mo_rank_0 (by decide) ?_
  refine lv_istore_n (lv' := [(2, .int (nI 0)), (0, .ref mo), (1, .int (nI n))]) hx hb d_mo_rank_1 rfl hl (by decide) rfl (fun ls hl => ?_)
  refine g_indH (V := Nat × (Nat → Int32) × gh) (fun (i0, b0, Gx) H locs ls => ((i0 ≤ 16 ∧ ∀ p, p < i0 → b0 p = 0) ∧ gKe (moI mo u1 u2 u3 u4 u5 u6 u7) G Gx ∧ moP Z Gx mo u1 u2 u3 u4 u5 u6 u7 th C E M D fl cf mf ff gf sf tf b0) ∧ gS (gA G s.heap.size) s.heap Z.1 cls Gx H locs ∧ lv_has ls 7 [(0, .ref mo), (1, .int (nI n)), (2, .int (nI i0))]) (fun (i0, b0, Gx) => 16 - i0) ?_ (0, bf, G) _ ⟨⟨⟨Nat.zero_le _, fun p h9 => by omega⟩, hK, ⟨hmo, hc1, hc2, hc3, hc4, hc5, hc6, hc7, n12, n45, n67⟩⟩, hG, lv_sub hl [1, 2, 0] rfl⟩
  intro v H locs ls hI ih2
  obtain ⟨i0, b0, Gx⟩ := v
  obtain ⟨⟨⟨hi0, hb0⟩, hK, hP2⟩, hG, hl⟩ := hI
  have hQ2 := hP2
  obtain ⟨hmo2, hc12, hc22, hc32, hc42, hc52, hc62, hc72, -⟩ := hP2
  refine lv_iload_n hx hb d_mo_rank_2 rfl (lv_at hl 2 rfl) ?_
  refine lv_bipush (v := nI 16) hx hb d_mo_rank_3 (by decide) ?_
  refine g_ge (tgt := 21) hx hb d_mo_rank_5 (by decide) (by omega) (by omega) (fun c5 => ?_) (fun c5 => ?_)
  · refine lv_iconst (v := nI 0) hx hb d_mo_rank_21 (by decide) ?_
    refine lv_istore_n (lv' := [(2, .int (nI 0)), (0, .ref mo), (1, .int (nI n))]) hx hb d_mo_rank_22 rfl hl (by decide) rfl (fun ls hl => ?_)
    refine lv_iconst (v := 1) hx hb d_mo_rank_23 (by decide) ?_
    refine lv_istore_n (lv' := [(3, .int 1), (2, .int (nI 0)), (0, .ref mo), (1, .int (nI n))]) hx hb d_mo_rank_24 rfl hl (by decide) rfl (fun ls hl => ?_)
    refine lv_iconst (v := nI 0) hx hb d_mo_rank_25 (by decide) ?_
    refine lv_istore (lv' := [(4, .int (nI 0)), (3, .int 1), (2, .int (nI 0)), (0, .ref mo), (1, .int (nI n))]) hx hb d_mo_rank_26 hl (by decide) rfl (fun ls hl => ?_)
    refine g_indH (V := Nat × Nat × Int32 × (Nat → Int32) × gh) (fun (i, rk, row, b, Gy) H locs ls => ((i ≤ n ∧ rk = min i D ∧ row = sqC (nI D) tp i ∧ rkB D tp i b) ∧ gKe (moI mo u1 u2 u3 u4 u5 u6 u7) G Gy ∧ moP Z Gy mo u1 u2 u3 u4 u5 u6 u7 th C E M D fl cf mf ff gf sf tf b) ∧ gS (gA G s.heap.size) s.heap Z.1 cls Gy H locs ∧ lv_has ls 7 [(0, .ref mo), (1, .int (nI n)), (2, .int (nI rk)), (3, .int row), (4, .int (nI i))]) (fun (i, rk, row, b, Gy) => n - i) ?_ (0, 0, 1, b0, Gx) _ ⟨⟨⟨Nat.zero_le _, by omega, rfl, fun k9 h9 => by rw [hb0 k9 (by omega), if_neg (by omega)]⟩, hK, ⟨hmo2, hc12, hc22, hc32, hc42, hc52, hc62, hc72, n12, n45, n67⟩⟩, hG, lv_sub hl [3, 4, 2, 1, 0] rfl⟩
    intro v H locs ls hI ih28
    obtain ⟨i, rk, row, b, Gy⟩ := v
    obtain ⟨⟨⟨hi, hrk, hrow, hB⟩, hK, hP28⟩, hG, hl⟩ := hI
    have hQ28 := hP28
    obtain ⟨hmo28, hc128, hc228, hc328, hc428, hc528, hc628, hc728, -⟩ := hP28
    refine lv_iload hx hb d_mo_rank_28 (lv_at hl 4 rfl) ?_
    refine lv_iload_n hx hb d_mo_rank_30 rfl (lv_at hl 1 rfl) ?_
    refine g_ge (tgt := 126) hx hb d_mo_rank_31 (by decide) (by omega) (by omega) (fun c31 => ?_) (fun c31 => ?_)
    · refine lv_iload_n hx hb d_mo_rank_126 rfl (lv_at hl 2 rfl) ?_
      refine W.widen (k := 0) (n := 0) (Nat.le_of_ble_eq_true rfl) (Nat.le_of_ble_eq_true rfl) ?_
      exact (W.iret hx hb hr (fun t9 ht9 hW9 => ⟨⟨_, _, rfl, ⟨by rw [hrk, show i = n by omega], b, hK, hQ28⟩, by rw [ht9]; exact hG.1, hG.2.1⟩, hG.2.2.1.F ht9⟩) hG.2.2.1.2.2 d_mo_rank_127)
    · refine lv_iload_n hx hb d_mo_rank_34 rfl (lv_at hl 3 rfl) ?_
      refine lv_istore (lv' := [(5, .int row), (0, .ref mo), (1, .int (nI n)), (2, .int (nI rk)), (3, .int row), (4, .int (nI i))]) hx hb d_mo_rank_35 hl (by decide) rfl (fun ls hl => ?_)
      refine lv_bipush (v := nI 15) hx hb d_mo_rank_37 (by decide) ?_
      refine lv_istore (lv' := [(6, .int (nI 15)), (5, .int row), (0, .ref mo), (1, .int (nI n)), (2, .int (nI rk)), (3, .int row), (4, .int (nI i))]) hx hb d_mo_rank_39 hl (by decide) rfl (fun ls hl => ?_)
      refine g_indH (V := Nat × Nat × Int32 × (Nat → Int32) × gh) (fun (j, rk2, v, b2, Gw) H locs ls => ((j ≤ 16 ∧ rkI D tp i b j rk2 v b2) ∧ gKe (moI mo u1 u2 u3 u4 u5 u6 u7) G Gw ∧ moP Z Gw mo u1 u2 u3 u4 u5 u6 u7 th C E M D fl cf mf ff gf sf tf b2) ∧ gS (gA G s.heap.size) s.heap Z.1 cls Gw H locs ∧ lv_has ls 7 [(0, .ref mo), (1, .int (nI n)), (2, .int (nI rk2)), (3, .int row), (4, .int (nI i)), (5, .int v), (6, .int (dn j))]) (fun (j, rk2, v, b2, Gw) => j) ?_ (16, rk, row, b, Gy) _ ⟨⟨⟨Nat.le_refl _, by rw [hrk, hrow]; exact rk_start hD1 hD16⟩, hK, ⟨hmo28, hc128, hc228, hc328, hc428, hc528, hc628, hc728, n12, n45, n67⟩⟩, hG, lv_sub hl [2, 3, 4, 5, 6, 1, 0] rfl⟩
      intro v H locs ls hI ih41
      obtain ⟨j, rk2, v, b2, Gw⟩ := v
      obtain ⟨⟨⟨hj, hI⟩, hK, hP41⟩, hG, hl⟩ := hI
      have hQ41 := hP41
      obtain ⟨hmo41, hc141, hc241, hc341, hc441, hc541, hc641, hc741, -⟩ := hP41
      cases j with
      | zero =>
        have hl : lv_has ls 7 [(0, .ref mo), (1, .int (nI n)), (2, .int (nI rk2)), (3, .int row), (4, .int (nI i)), (5, .int v), (6, .int (-1))] := hl
        refine lv_iload hx hb d_mo_rank_41 (lv_at hl 6 rfl) ?_
        refine lv_if_lt (tgt := 114) hx hb d_mo_rank_43 (by decide) (fun c43 => ?_) (fun c43 => absurd c43 (by decide))
        refine lv_aload_n hx hb d_mo_rank_114 rfl (lv_at hl 0 rfl) ?_
        refine lv_iload_n hx hb d_mo_rank_115 rfl (lv_at hl 3 rfl) ?_
        refine g_reti (g_runV (As := [.int row]) (rest := []) S lk_mo_74 k_mo_step (c_mo_step l Z Gw mo ⟨hmo41, hc141, hc241, hc341, hc441, hc541, hc641, hc741, n12, n45, n67⟩ hT row) ⟨rfl, rfl⟩ ⟨Nat.le_of_ble_eq_true rfl, Nat.le_of_ble_eq_true rfl⟩ (gPreV hG.1 hE hmo41 rfl) rfl hl.1 rfl (Nat.le_of_ble_eq_true rfl) d_mo_rank_116 ⟨Nat.le_of_ble_eq_true rfl, Nat.le_of_ble_eq_true rfl⟩) (fun r116 h116 => ?_)
        refine lv_istore_n (lv' := [(3, .int r116), (0, .ref mo), (1, .int (nI n)), (2, .int (nI rk2)), (4, .int (nI i)), (5, .int v), (6, .int (-1))]) hx hb d_mo_rank_119 rfl hl (by decide) rfl (fun ls hl => ?_)
        refine lv_iinc (v := nI (i + 1)) (lv' := [(4, .int (nI (i + 1))), (3, .int r116), (0, .ref mo), (1, .int (nI n)), (2, .int (nI rk2)), (5, .int v), (6, .int (-1))]) hx hb d_mo_rank_120 hl (k := 4) rfl (show nI i + 1 = _ from nI_1 i) (by decide) rfl (fun ls hl => ?_)
        refine lv_goto (tgt := 28) hx hb d_mo_rank_123 (by decide) ?_
        exact ih28 ((i + 1), rk2, r116, b2, Gw) _ _ _ ⟨⟨⟨by omega, (rk_end hD16 hB hI).1, by rw [h116, hrow]; rfl, (rk_end hD16 hB hI).2⟩, hK, ⟨hmo41, hc141, hc241, hc341, hc441, hc541, hc641, hc741, n12, n45, n67⟩⟩, hG, lv_sub hl [2, 3, 4, 1, 0] rfl⟩ (by first | omega | (simp only []; omega))
      | succ k =>
        have hl : lv_has ls 7 [(0, .ref mo), (1, .int (nI n)), (2, .int (nI rk2)), (3, .int row), (4, .int (nI i)), (5, .int v), (6, .int (nI k))] := hl
        refine lv_iload hx hb d_mo_rank_41 (lv_at hl 6 rfl) ?_
        refine lv_if_lt (tgt := 114) hx hb d_mo_rank_43 (by decide) (fun c43 => absurd c43 (nI_pos (by omega))) (fun c43 => ?_)
        refine lv_iload hx hb d_mo_rank_46 (lv_at hl 5 rfl) ?_
        refine lv_iload hx hb d_mo_rank_48 (lv_at hl 6 rfl) ?_
        refine lv_ishr hx hb d_mo_rank_50 ?_
        refine lv_iconst (v := 1) hx hb d_mo_rank_51 (by decide) ?_
        refine lv_iand hx hb d_mo_rank_52 ?_
        refine g_topi (y := zb (tb v k)) (shr1 v (by omega)) ?_
        refine lv_iconst (v := 1) hx hb d_mo_rank_53 (by decide) ?_
        refine lv_icmp_ne (tgt := 82) hx hb d_mo_rank_54 (by decide) (fun c54 => ?_) (fun c54 => ?_)
        · refine lv_iload hx hb d_mo_rank_82 (lv_at hl 5 rfl) ?_
          refine lv_iload hx hb d_mo_rank_84 (lv_at hl 6 rfl) ?_
          refine lv_ishr hx hb d_mo_rank_86 ?_
          refine lv_iconst (v := 1) hx hb d_mo_rank_87 (by decide) ?_
          refine lv_iand hx hb d_mo_rank_88 ?_
          refine g_topi (y := zb (tb v k)) (shr1 v (by omega)) ?_
          refine lv_iconst (v := 1) hx hb d_mo_rank_89 (by decide) ?_
          refine lv_icmp_ne (tgt := 108) hx hb d_mo_rank_90 (by decide) (fun c90 => ?_) (fun c90 => ?_)
          · refine lv_iinc (v := dn k) (lv' := [(6, .int (dn k)), (0, .ref mo), (1, .int (nI n)), (2, .int (nI rk2)), (3, .int row), (4, .int (nI i)), (5, .int v)]) hx hb d_mo_rank_108 hl (k := 6) rfl (dn_pred k) (by decide) rfl (fun ls hl => ?_)
            refine lv_goto (tgt := 41) hx hb d_mo_rank_111 (by decide) ?_
            exact ih41 (k, rk2, v, b2, Gw) _ _ _ ⟨⟨⟨by omega, (by first | exact absurd c90 c54 | exact absurd c54 c90 | (rw [e77]; exact rk_xor hD16 (by omega) hB hI (zb1 c54) c64) | exact rk_put hD16 (by omega) hB hI (zb1 c54) c64 | exact rk_skip hD16 (by omega) hI (zb1n c54))⟩, hK, ⟨hmo41, hc141, hc241, hc341, hc441, hc541, hc641, hc741, n12, n45, n67⟩⟩, hG, lv_sub hl [1, 2, 3, 4, 5, 6, 0] rfl⟩ (by first | omega | (simp only []; omega))
          · refine lv_aload_n hx hb d_mo_rank_93 rfl (lv_at hl 0 rfl) ?_
            refine g_get S hE.1 hG.1 hmo41 rfl in_mo 12 (by decide) tw_503 (fun _ h9 => h9) rfl d_mo_rank_94 ?_
            refine lv_iload hx hb d_mo_rank_97 (lv_at hl 6 rfl) ?_
            refine lv_iload hx hb d_mo_rank_99 (lv_at hl 5 rfl) ?_
            refine g_iast S hE.1 hG hc741 1 rfl (vp_in_nI (by omega) (by omega)) d_mo_rank_101 (fun H locs hG => ?_)
            rw [nI_clamp (show k < 2 ^ 31 by omega)] at hG
            have hG : gS (gA G s.heap.size) s.heap Z.1 cls (gup Gw u7 (.inl (Z.2 1, 16, .inl (upd b2 k v)))) H locs := hG
            generalize eG101 : gup Gw u7 (.inl (Z.2 1, 16, .inl (upd b2 k v))) = G101 at hG
            have f101_mo : G101 mo = some (.inr (4, [.int th, .int (nI C), .int (nI E), .ref u1, .ref u2, .ref u3, .ref u4, .ref u5, .int (nI M), .int (nI D), .ref u6, .int fl, .ref u7])) := by rw [← eG101]; exact gup_keep hc741 hmo41 (by simp)
            have f101_u1 : G101 u1 = some (.inl (Z.2 1, 768, .inl cf)) := by rw [← eG101]; exact gup_keep hc741 hc141 (by simp)
            have f101_u2 : G101 u2 = some (.inl (Z.2 2, 768, .inl mf)) := by rw [← eG101]; exact gup_keep hc741 hc241 (by simp)
            have f101_u3 : G101 u3 = some (.inl (Z.2 2, 744, .inl ff)) := by rw [← eG101]; exact gup_keep hc741 hc341 (by simp)
            have f101_u4 : G101 u4 = some (.inl (Z.2 2, 24, .inl gf)) := by rw [← eG101]; exact gup_keep hc741 hc441 (by simp)
            have f101_u5 : G101 u5 = some (.inl (Z.2 1, 24, .inl sf)) := by rw [← eG101]; exact gup_keep hc741 hc541 (by simp)
            have f101_u6 : G101 u6 = some (.inl (Z.2 2, 16, .inl tf)) := by rw [← eG101]; exact (gup_ne _ _ n67).trans hc641
            have f101 : G101 u7 = some (.inl (Z.2 1, 16, .inl (upd b2 k v))) := by rw [← eG101]; exact gup_self _ _ _
            have hK : gKe (moI mo u1 u2 u3 u4 u5 u6 u7) G G101 := by rw [← eG101]; exact hK.up (by simp [moI])
            refine lv_iinc (v := nI (rk2 + 1)) (lv' := [(2, .int (nI (rk2 + 1))), (0, .ref mo), (1, .int (nI n)), (3, .int row), (4, .int (nI i)), (5, .int v), (6, .int (nI k))]) hx hb d_mo_rank_102 hl (k := 2) rfl (show nI rk2 + 1 = _ from nI_1 rk2) (by decide) rfl (fun ls hl => ?_)
            refine lv_iconst (v := 0) hx hb d_mo_rank_105 (by decide) ?_
            refine lv_istore (lv' := [(5, .int 0), (2, .int (nI (rk2 + 1))), (0, .ref mo), (1, .int (nI n)), (3, .int row), (4, .int (nI i)), (6, .int (nI k))]) hx hb d_mo_rank_106 hl (by decide) rfl (fun ls hl => ?_)
            refine lv_iinc (v := dn k) (lv' := [(6, .int (dn k)), (5, .int 0), (2, .int (nI (rk2 + 1))), (0, .ref mo), (1, .int (nI n)), (3, .int row), (4, .int (nI i))]) hx hb d_mo_rank_108 hl (k := 6) rfl (dn_pred k) (by decide) rfl (fun ls hl => ?_)
            refine lv_goto (tgt := 41) hx hb d_mo_rank_111 (by decide) ?_
            exact ih41 (k, (rk2 + 1), 0, upd b2 k v, G101) _ _ _ ⟨⟨⟨by omega, (by first | exact absurd c90 c54 | exact absurd c54 c90 | (rw [e77]; exact rk_xor hD16 (by omega) hB hI (zb1 c54) c64) | exact rk_put hD16 (by omega) hB hI (zb1 c54) c64 | exact rk_skip hD16 (by omega) hI (zb1n c54))⟩, hK, ⟨f101_mo, f101_u1, f101_u2, f101_u3, f101_u4, f101_u5, f101_u6, f101, n12, n45, n67⟩⟩, hG, lv_sub hl [3, 4, 2, 5, 6, 1, 0] rfl⟩ (by first | omega | (simp only []; omega))
        · refine lv_aload_n hx hb d_mo_rank_57 rfl (lv_at hl 0 rfl) ?_
          refine g_get S hE.1 hG.1 hmo41 rfl in_mo 12 (by decide) tw_503 (fun _ h9 => h9) rfl d_mo_rank_58 ?_
          refine lv_iload hx hb d_mo_rank_61 (lv_at hl 6 rfl) ?_
          refine g_iald S hE.1 hG.1 hc741 1 rfl (vp_in_nI (by omega) (by omega)) d_mo_rank_63 ?_
          refine g_topi (congrArg b2 (nI_clamp (show k < 2 ^ 31 by omega))) ?_
          refine lv_if_eq (tgt := 82) hx hb d_mo_rank_64 (by decide) (fun c64 => ?_) (fun c64 => ?_)
          · refine lv_iload hx hb d_mo_rank_82 (lv_at hl 5 rfl) ?_
            refine lv_iload hx hb d_mo_rank_84 (lv_at hl 6 rfl) ?_
            refine lv_ishr hx hb d_mo_rank_86 ?_
            refine lv_iconst (v := 1) hx hb d_mo_rank_87 (by decide) ?_
            refine lv_iand hx hb d_mo_rank_88 ?_
            refine g_topi (y := zb (tb v k)) (shr1 v (by omega)) ?_
            refine lv_iconst (v := 1) hx hb d_mo_rank_89 (by decide) ?_
            refine lv_icmp_ne (tgt := 108) hx hb d_mo_rank_90 (by decide) (fun c90 => ?_) (fun c90 => ?_)
            · refine lv_iinc (v := dn k) (lv' := [(6, .int (dn k)), (0, .ref mo), (1, .int (nI n)), (2, .int (nI rk2)), (3, .int row), (4, .int (nI i)), (5, .int v)]) hx hb d_mo_rank_108 hl (k := 6) rfl (dn_pred k) (by decide) rfl (fun ls hl => ?_)
              refine lv_goto (tgt := 41) hx hb d_mo_rank_111 (by decide) ?_
              exact ih41 (k, rk2, v, b2, Gw) _ _ _ ⟨⟨⟨by omega, (by first | exact absurd c90 c54 | exact absurd c54 c90 | (rw [e77]; exact rk_xor hD16 (by omega) hB hI (zb1 c54) c64) | exact rk_put hD16 (by omega) hB hI (zb1 c54) c64 | exact rk_skip hD16 (by omega) hI (zb1n c54))⟩, hK, ⟨hmo41, hc141, hc241, hc341, hc441, hc541, hc641, hc741, n12, n45, n67⟩⟩, hG, lv_sub hl [1, 2, 3, 4, 5, 6, 0] rfl⟩ (by first | omega | (simp only []; omega))
            · refine lv_aload_n hx hb d_mo_rank_93 rfl (lv_at hl 0 rfl) ?_
              refine g_get S hE.1 hG.1 hmo41 rfl in_mo 12 (by decide) tw_503 (fun _ h9 => h9) rfl d_mo_rank_94 ?_
              refine lv_iload hx hb d_mo_rank_97 (lv_at hl 6 rfl) ?_
              refine lv_iload hx hb d_mo_rank_99 (lv_at hl 5 rfl) ?_
              refine g_iast S hE.1 hG hc741 1 rfl (vp_in_nI (by omega) (by omega)) d_mo_rank_101 (fun H locs hG => ?_)
              rw [nI_clamp (show k < 2 ^ 31 by omega)] at hG
              have hG : gS (gA G s.heap.size) s.heap Z.1 cls (gup Gw u7 (.inl (Z.2 1, 16, .inl (upd b2 k v)))) H locs := hG
              generalize eG101 : gup Gw u7 (.inl (Z.2 1, 16, .inl (upd b2 k v))) = G101 at hG
              have f101_mo : G101 mo = some (.inr (4, [.int th, .int (nI C), .int (nI E), .ref u1, .ref u2, .ref u3, .ref u4, .ref u5, .int (nI M), .int (nI D), .ref u6, .int fl, .ref u7])) := by rw [← eG101]; exact gup_keep hc741 hmo41 (by simp)
              have f101_u1 : G101 u1 = some (.inl (Z.2 1, 768, .inl cf)) := by rw [← eG101]; exact gup_keep hc741 hc141 (by simp)
              have f101_u2 : G101 u2 = some (.inl (Z.2 2, 768, .inl mf)) := by rw [← eG101]; exact gup_keep hc741 hc241 (by simp)
              have f101_u3 : G101 u3 = some (.inl (Z.2 2, 744, .inl ff)) := by rw [← eG101]; exact gup_keep hc741 hc341 (by simp)
              have f101_u4 : G101 u4 = some (.inl (Z.2 2, 24, .inl gf)) := by rw [← eG101]; exact gup_keep hc741 hc441 (by simp)
              have f101_u5 : G101 u5 = some (.inl (Z.2 1, 24, .inl sf)) := by rw [← eG101]; exact gup_keep hc741 hc541 (by simp)
              have f101_u6 : G101 u6 = some (.inl (Z.2 2, 16, .inl tf)) := by rw [← eG101]; exact (gup_ne _ _ n67).trans hc641
              have f101 : G101 u7 = some (.inl (Z.2 1, 16, .inl (upd b2 k v))) := by rw [← eG101]; exact gup_self _ _ _
              have hK : gKe (moI mo u1 u2 u3 u4 u5 u6 u7) G G101 := by rw [← eG101]; exact hK.up (by simp [moI])
              refine lv_iinc (v := nI (rk2 + 1)) (lv' := [(2, .int (nI (rk2 + 1))), (0, .ref mo), (1, .int (nI n)), (3, .int row), (4, .int (nI i)), (5, .int v), (6, .int (nI k))]) hx hb d_mo_rank_102 hl (k := 2) rfl (show nI rk2 + 1 = _ from nI_1 rk2) (by decide) rfl (fun ls hl => ?_)
              refine lv_iconst (v := 0) hx hb d_mo_rank_105 (by decide) ?_
              refine lv_istore (lv' := [(5, .int 0), (2, .int (nI (rk2 + 1))), (0, .ref mo), (1, .int (nI n)), (3, .int row), (4, .int (nI i)), (6, .int (nI k))]) hx hb d_mo_rank_106 hl (by decide) rfl (fun ls hl => ?_)
              refine lv_iinc (v := dn k) (lv' := [(6, .int (dn k)), (5, .int 0), (2, .int (nI (rk2 + 1))), (0, .ref mo), (1, .int (nI n)), (3, .int row), (4, .int (nI i))]) hx hb d_mo_rank_108 hl (k := 6) rfl (dn_pred k) (by decide) rfl (fun ls hl => ?_)
              refine lv_goto (tgt := 41) hx hb d_mo_rank_111 (by decide) ?_
              exact ih41 (k, (rk2 + 1), 0, upd b2 k v, G101) _ _ _ ⟨⟨⟨by omega, (by first | exact absurd c90 c54 | exact absurd c54 c90 | (rw [e77]; exact rk_xor hD16 (by omega) hB hI (zb1 c54) c64) | exact rk_put hD16 (by omega) hB hI (zb1 c54) c64 | exact rk_skip hD16 (by omega) hI (zb1n c54))⟩, hK, ⟨f101_mo, f101_u1, f101_u2, f101_u3, f101_u4, f101_u5, f101_u6, f101, n12, n45, n67⟩⟩, hG, lv_sub hl [3, 4, 2, 5, 6, 1, 0] rfl⟩ (by first | omega | (simp only []; omega))
          · refine lv_iload hx hb d_mo_rank_67 (lv_at hl 5 rfl) ?_
            refine lv_aload_n hx hb d_mo_rank_69 rfl (lv_at hl 0 rfl) ?_
            refine g_get S hE.1 hG.1 hmo41 rfl in_mo 12 (by decide) tw_503 (fun _ h9 => h9) rfl d_mo_rank_70 ?_
            refine lv_iload hx hb d_mo_rank_73 (lv_at hl 6 rfl) ?_
            refine g_iald S hE.1 hG.1 hc741 1 rfl (vp_in_nI (by omega) (by omega)) d_mo_rank_75 ?_
            refine g_topi (congrArg b2 (nI_clamp (show k < 2 ^ 31 by omega))) ?_
            refine lv_ixor hx hb d_mo_rank_76 ?_
            refine lv_topi (fun x77 e77 => ?_)
            refine lv_istore (lv' := [(5, .int x77), (0, .ref mo), (1, .int (nI n)), (2, .int (nI rk2)), (3, .int row), (4, .int (nI i)), (6, .int (nI k))]) hx hb d_mo_rank_77 hl (by decide) rfl (fun ls hl => ?_)
            refine lv_goto (tgt := 108) hx hb d_mo_rank_79 (by decide) ?_
            refine lv_iinc (v := dn k) (lv' := [(6, .int (dn k)), (5, .int x77), (0, .ref mo), (1, .int (nI n)), (2, .int (nI rk2)), (3, .int row), (4, .int (nI i))]) hx hb d_mo_rank_108 hl (k := 6) rfl (dn_pred k) (by decide) rfl (fun ls hl => ?_)
            refine lv_goto (tgt := 41) hx hb d_mo_rank_111 (by decide) ?_
            exact ih41 (k, rk2, x77, b2, Gw) _ _ _ ⟨⟨⟨by omega, (by first | exact absurd c90 c54 | exact absurd c54 c90 | (rw [e77]; exact rk_xor hD16 (by omega) hB hI (zb1 c54) c64) | exact rk_put hD16 (by omega) hB hI (zb1 c54) c64 | exact rk_skip hD16 (by omega) hI (zb1n c54))⟩, hK, ⟨hmo41, hc141, hc241, hc341, hc441, hc541, hc641, hc741, n12, n45, n67⟩⟩, hG, lv_sub hl [2, 3, 4, 5, 6, 1, 0] rfl⟩ (by first | omega | (simp only []; omega))
  · refine lv_aload_n hx hb d_mo_rank_8 rfl (lv_at hl 0 rfl) ?_
    refine g_get S hE.1 hG.1 hmo2 rfl in_mo 12 (by decide) tw_503 (fun _ h9 => h9) rfl d_mo_rank_9 ?_
    refine lv_iload_n hx hb d_mo_rank_12 rfl (lv_at hl 2 rfl) ?_
    refine lv_iconst (v := 0) hx hb d_mo_rank_13 (by decide) ?_
    refine g_iast S hE.1 hG hc72 1 rfl (vp_in_nI (by omega) (by omega)) d_mo_rank_14 (fun H locs hG => ?_)
    rw [nI_clamp (show i0 < 2 ^ 31 by omega)] at hG
    have hG : gS (gA G s.heap.size) s.heap Z.1 cls (gup Gx u7 (.inl (Z.2 1, 16, .inl (upd b0 i0 0)))) H locs := hG
    generalize eG14 : gup Gx u7 (.inl (Z.2 1, 16, .inl (upd b0 i0 0))) = G14 at hG
    have f14_mo : G14 mo = some (.inr (4, [.int th, .int (nI C), .int (nI E), .ref u1, .ref u2, .ref u3, .ref u4, .ref u5, .int (nI M), .int (nI D), .ref u6, .int fl, .ref u7])) := by rw [← eG14]; exact gup_keep hc72 hmo2 (by simp)
    have f14_u1 : G14 u1 = some (.inl (Z.2 1, 768, .inl cf)) := by rw [← eG14]; exact gup_keep hc72 hc12 (by simp)
    have f14_u2 : G14 u2 = some (.inl (Z.2 2, 768, .inl mf)) := by rw [← eG14]; exact gup_keep hc72 hc22 (by simp)
    have f14_u3 : G14 u3 = some (.inl (Z.2 2, 744, .inl ff)) := by rw [← eG14]; exact gup_keep hc72 hc32 (by simp)
    have f14_u4 : G14 u4 = some (.inl (Z.2 2, 24, .inl gf)) := by rw [← eG14]; exact gup_keep hc72 hc42 (by simp)
    have f14_u5 : G14 u5 = some (.inl (Z.2 1, 24, .inl sf)) := by rw [← eG14]; exact gup_keep hc72 hc52 (by simp)
    have f14_u6 : G14 u6 = some (.inl (Z.2 2, 16, .inl tf)) := by rw [← eG14]; exact (gup_ne _ _ n67).trans hc62
    have f14 : G14 u7 = some (.inl (Z.2 1, 16, .inl (upd b0 i0 0))) := by rw [← eG14]; exact gup_self _ _ _
    have hK : gKe (moI mo u1 u2 u3 u4 u5 u6 u7) G G14 := by rw [← eG14]; exact hK.up (by simp [moI])
    refine lv_iinc (v := nI (i0 + 1)) (lv' := [(2, .int (nI (i0 + 1))), (0, .ref mo), (1, .int (nI n))]) hx hb d_mo_rank_15 hl (k := 2) rfl (show nI i0 + 1 = _ from nI_1 i0) (by decide) rfl (fun ls hl => ?_)
    refine lv_goto (tgt := 2) hx hb d_mo_rank_18 (by decide) ?_
    exact ih2 ((i0 + 1), upd b0 i0 0, G14) _ _ _ ⟨⟨⟨by omega, fun p h9 => by
        by_cases e9 : p = i0
        · subst e9; exact pk_us
        · rw [pk_un e9]; exact hb0 p (by omega)⟩, hK, ⟨f14_mo, f14_u1, f14_u2, f14_u3, f14_u4, f14_u5, f14_u6, f14, n12, n45, n67⟩⟩, hG, lv_sub hl [1, 2, 0] rfl⟩ (by first | omega | (simp only []; omega))
