set_option maxHeartbeats 600000 in
set_option maxRecDepth 100000 in
theorem c_mo_thrown (l : Launch) (Z : gZ) (G : gh) (mo : Nat) {u1 u2 u3 u4 u5 u6 u7 : Nat} {th : Int32} {C E M D : Nat} {fl : Int32} {cf mf ff gf sf tf bf : Nat → Int32} (hP : moP Z G mo u1 u2 u3 u4 u5 u6 u7 th C E M D fl cf mf ff gf sf tf bf) : Met l y_mo_thrown (wd_mo_thrown :: Gall) ({ frames := 0, cells := 0, slots := 0, locals := 0 }) (va_Pc [.ref mo] (gPure Z G)) (vp_Si (fun r : Int32 => r = th)) 0 0 (fun _ => False) := by
  refine Met.ofW (cc := b_mo_thrown) (maxL := 1) (ret := (some .int)) (by decide) rfl ?_
  intro p e s m args below meth c s₁ B hml hv
  obtain ⟨rfl, hG, hE⟩ := hv
  have hx := B.exec
  have hb := B.bytes
  have hr := B.returns
  have hlocks := B.notSynchronized
  have S : CallFix p m c b_mo_thrown 1 s _ Gall "PackSeedsModel" := ⟨hx, hb, hml, findClass_of_methodNamed B.named, fun w hw => atoms_spec (ws := wd_mo_thrown :: Gall) B.pre w (List.mem_cons_of_mem _ hw)⟩
  have hl := lv_entry ([.ref mo]) (n := 1) (Nat.le_of_ble_eq_true rfl)
  rw [lg_entry_eq]
  generalize (lg_sl ([.ref mo]) ++ List.replicate (1 - (lg_sl ([.ref mo])).length) Slot.unset).toArray = ls at hl ⊢
  have hl : lv_has ls 1 [(0, .ref mo)] := hl
  have hP0 := hP
  obtain ⟨hmo, hc1, hc2, hc3, hc4, hc5, hc6, hc7, n12, n45, n67⟩ := hP
  refine lv_aload_n hx hb d_mo_thrown_0 rfl (lv_at hl 0 rfl) ?_
  refine g_get S hE.1 hG hmo rfl in_mo 0 (by decide) tw_491 (fun _ h9 => h9) rfl d_mo_thrown_1 ?_
  exact W.iret hx hb hr (fun t9 ht9 hW9 => ⟨_, rfl, rfl, ht9⟩) (fun _ h => nomatch h) d_mo_thrown_4

set_option maxHeartbeats 600000 in
set_option maxRecDepth 100000 in
theorem c_mo_is (l : Launch) (Z : gZ) (G : gh) (mo : Nat) {u1 u2 u3 u4 u5 u6 u7 : Nat} {th : Int32} {C E M D : Nat} {fl : Int32} {cf mf ff gf sf tf bf : Nat → Int32} (hP : moP Z G mo u1 u2 u3 u4 u5 u6 u7 th C E M D fl cf mf ff gf sf tf bf) {pt : Nat → Option Nat} {pd : Nat → Pat} (hR : Sim C E M pt pd cf mf ff gf sf) (n : Int32) : Met l y_mo_is (wd_mo_is :: Gall) ({ frames := 0, cells := 0, slots := 0, locals := 0 }) (va_Pc [.ref mo, .int n] (gPure Z G)) (vp_Si (fun r : Int32 => (r = 1 ∧ ∃ j, okP pt pd n j) ∨ (r = 0 ∧ ∀ j, ¬ okP pt pd n j))) 0 0 (fun _ => False) := by
  refine Met.ofW (cc := b_mo_is) (maxL := 2) (ret := (some .boolean)) (by decide) rfl ?_
  intro p e s m args below meth c s₁ B hml hv
  obtain ⟨rfl, hG, hE⟩ := hv
  have hx := B.exec
  have hb := B.bytes
  have hr := B.returns
  have hlocks := B.notSynchronized
  have S : CallFix p m c b_mo_is 2 s _ Gall "PackSeedsModel" := ⟨hx, hb, hml, findClass_of_methodNamed B.named, fun w hw => atoms_spec (ws := wd_mo_is :: Gall) B.pre w (List.mem_cons_of_mem _ hw)⟩
  have hl := lv_entry ([.ref mo, .int n]) (n := 2) (Nat.le_of_ble_eq_true rfl)
  rw [lg_entry_eq]
  generalize (lg_sl ([.ref mo, .int n]) ++ List.replicate (2 - (lg_sl ([.ref mo, .int n])).length) Slot.unset).toArray = ls at hl ⊢
  have hl : lv_has ls 2 [(0, .ref mo), (1, .int n)] := hl
  have hP0 := hP
  obtain ⟨hmo, hc1, hc2, hc3, hc4, hc5, hc6, hc7, n12, n45, n67⟩ := hP
  have hM24 := hR.1
  refine lv_iload_n hx hb d_mo_is_0 rfl (lv_at hl 1 rfl) ?_
  refine lv_if_lt (tgt := 25) hx hb d_mo_is_1 (by decide) (fun c1 => ?_) (fun c1 => ?_)
  · refine lv_iconst (v := 0) hx hb d_mo_is_25 (by decide) ?_
    exact W.zret hx hb hr rfl (fun t9 ht9 hW9 => ⟨_, rfl, (by first | exact Or.inl ⟨rfl, j, hR.ok.mpr ⟨rfl, hj, c18⟩⟩ | exact Or.inr ⟨rfl, fun i hi => by obtain ⟨e1, e2, e3⟩ := hR.ok.mp hi; first | (rw [e1] at c1; exact absurd c1 (nI_pos (by omega))) | (rw [e1] at c9; exact absurd c9 (nI_ge e2 (by omega))) | (rw [(nI_eq (show i < 2 ^ 31 by omega) (show j < 2 ^ 31 by omega)).mp e1.symm] at e3; exact c18 e3)⟩), ht9⟩) (fun _ h => nomatch h) d_mo_is_26
  · refine lv_iload_n hx hb d_mo_is_4 rfl (lv_at hl 1 rfl) ?_
    refine lv_aload_n hx hb d_mo_is_5 rfl (lv_at hl 0 rfl) ?_
    refine g_get S hE.1 hG hmo rfl in_mo 8 (by decide) tw_499 (fun _ h9 => h9) rfl d_mo_is_6 ?_
    refine lv_icmp_ge (tgt := 25) hx hb d_mo_is_9 (by decide) (fun c9 => ?_) (fun c9 => ?_)
    · refine lv_iconst (v := 0) hx hb d_mo_is_25 (by decide) ?_
      exact W.zret hx hb hr rfl (fun t9 ht9 hW9 => ⟨_, rfl, (by first | exact Or.inl ⟨rfl, j, hR.ok.mpr ⟨rfl, hj, c18⟩⟩ | exact Or.inr ⟨rfl, fun i hi => by obtain ⟨e1, e2, e3⟩ := hR.ok.mp hi; first | (rw [e1] at c1; exact absurd c1 (nI_pos (by omega))) | (rw [e1] at c9; exact absurd c9 (nI_ge e2 (by omega))) | (rw [(nI_eq (show i < 2 ^ 31 by omega) (show j < 2 ^ 31 by omega)).mp e1.symm] at e3; exact c18 e3)⟩), ht9⟩) (fun _ h => nomatch h) d_mo_is_26
    · obtain ⟨j, hj, hnj⟩ := rngD (show M < 2 ^ 31 by omega) c1 (Int32.not_le.mp c9)
      subst hnj
      refine lv_aload_n hx hb d_mo_is_12 rfl (lv_at hl 0 rfl) ?_
      refine g_get S hE.1 hG hmo rfl in_mo 6 (by decide) tw_497 (fun _ h9 => h9) rfl d_mo_is_13 ?_
      refine lv_iload_n hx hb d_mo_is_16 rfl (lv_at hl 1 rfl) ?_
      refine g_zald S hE.1 hG hc4 2 rfl (vp_in_nI (by omega) (by omega)) d_mo_is_17 ?_
      refine g_topi (congrArg gf (nI_clamp (show j < 2 ^ 31 by omega))) ?_
      refine lv_if_ne (tgt := 25) hx hb d_mo_is_18 (by decide) (fun c18 => ?_) (fun c18 => ?_)
      · refine lv_iconst (v := 0) hx hb d_mo_is_25 (by decide) ?_
        exact W.zret hx hb hr rfl (fun t9 ht9 hW9 => ⟨_, rfl, (by first | exact Or.inl ⟨rfl, j, hR.ok.mpr ⟨rfl, hj, c18⟩⟩ | exact Or.inr ⟨rfl, fun i hi => by obtain ⟨e1, e2, e3⟩ := hR.ok.mp hi; first | (rw [e1] at c1; exact absurd c1 (nI_pos (by omega))) | (rw [e1] at c9; exact absurd c9 (nI_ge e2 (by omega))) | (rw [(nI_eq (show i < 2 ^ 31 by omega) (show j < 2 ^ 31 by omega)).mp e1.symm] at e3; exact c18 e3)⟩), ht9⟩) (fun _ h => nomatch h) d_mo_is_26
      · refine lv_iconst (v := 1) hx hb d_mo_is_21 (by decide) ?_
        refine lv_goto (tgt := 26) hx hb d_mo_is_22 (by decide) ?_
        exact W.zret hx hb hr rfl (fun t9 ht9 hW9 => ⟨_, rfl, (by first | exact Or.inl ⟨rfl, j, hR.ok.mpr ⟨rfl, hj, c18⟩⟩ | exact Or.inr ⟨rfl, fun i hi => by obtain ⟨e1, e2, e3⟩ := hR.ok.mp hi; first | (rw [e1] at c1; exact absurd c1 (nI_pos (by omega))) | (rw [e1] at c9; exact absurd c9 (nI_ge e2 (by omega))) | (rw [(nI_eq (show i < 2 ^ 31 by omega) (show j < 2 ^ 31 by omega)).mp e1.symm] at e3; exact c18 e3)⟩), ht9⟩) (fun _ h => nomatch h) d_mo_is_26

set_option maxHeartbeats 600000 in
set_option maxRecDepth 100000 in
theorem c_mo_isCell (l : Launch) (Z : gZ) (G : gh) (mo : Nat) {u1 u2 u3 u4 u5 u6 u7 : Nat} {th : Int32} {C E M D : Nat} {fl : Int32} {cf mf ff gf sf tf bf : Nat → Int32} (hP : moP Z G mo u1 u2 u3 u4 u5 u6 u7 th C E M D fl cf mf ff gf sf tf bf) (hC : C ≤ 4) (hE8 : E ≤ 8) (c0 e0 : Int32) : Met l y_mo_isCell (wd_mo_isCell :: Gall) ({ frames := 0, cells := 0, slots := 0, locals := 0 }) (va_Pc [.ref mo, .int c0, .int e0] (gPure Z G)) (vp_Si (fun r : Int32 => (r = 1 ∧ ∃ k j, k < C ∧ j < E ∧ c0 = nI k ∧ e0 = nI j) ∨ (r = 0 ∧ ¬ ∃ k j, k < C ∧ j < E ∧ c0 = nI k ∧ e0 = nI j))) 0 0 (fun _ => False) := by
  refine Met.ofW (cc := b_mo_isCell) (maxL := 3) (ret := (some .boolean)) (by decide) rfl ?_
  intro p e s m args below meth c s₁ B hml hv
  obtain ⟨rfl, hG, hE⟩ := hv
  have hx := B.exec
  have hb := B.bytes
  have hr := B.returns
  have hlocks := B.notSynchronized
  have S : CallFix p m c b_mo_isCell 3 s _ Gall "PackSeedsModel" := ⟨hx, hb, hml, findClass_of_methodNamed B.named, fun w hw => atoms_spec (ws := wd_mo_isCell :: Gall) B.pre w (List.mem_cons_of_mem _ hw)⟩
  have hl := lv_entry ([.ref mo, .int c0, .int e0]) (n := 3) (Nat.le_of_ble_eq_true rfl)
  rw [lg_entry_eq]
  generalize (lg_sl ([.ref mo, .int c0, .int e0]) ++ List.replicate (3 - (lg_sl ([.ref mo, .int c0, .int e0])).length) Slot.unset).toArray = ls at hl ⊢
  have hl : lv_has ls 3 [(0, .ref mo), (1, .int c0), (2, .int e0)] := hl
  have hP0 := hP
  obtain ⟨hmo, hc1, hc2, hc3, hc4, hc5, hc6, hc7, n12, n45, n67⟩ := hP
  refine lv_iload_n hx hb d_mo_isCell_0 rfl (lv_at hl 1 rfl) ?_
  refine lv_if_lt (tgt := 28) hx hb d_mo_isCell_1 (by decide) (fun c1 => ?_) (fun c1 => ?_)
  · refine lv_iconst (v := 0) hx hb d_mo_isCell_28 (by decide) ?_
    exact W.zret hx hb hr rfl (fun t9 ht9 hW9 => ⟨_, rfl, (by first | exact Or.inl ⟨rfl, (by obtain ⟨k, hk, e1⟩ := rngD (show C < 2 ^ 31 by omega) c1 (Int32.not_le.mp c9); obtain ⟨j, hj, e2⟩ := rngD (show E < 2 ^ 31 by omega) c13 (Int32.not_le.mp c21); exact ⟨k, j, hk, hj, e1, e2⟩)⟩ | exact Or.inr ⟨rfl, fun ⟨k, j, hk, hj, e1, e2⟩ => by subst e1; subst e2; first | exact absurd c1 (nI_pos (by omega)) | exact absurd c9 (nI_ge hk (by omega)) | exact absurd c13 (nI_pos (by omega)) | exact absurd c21 (nI_ge hj (by omega))⟩), ht9⟩) (fun _ h => nomatch h) d_mo_isCell_29
  · refine lv_iload_n hx hb d_mo_isCell_4 rfl (lv_at hl 1 rfl) ?_
    refine lv_aload_n hx hb d_mo_isCell_5 rfl (lv_at hl 0 rfl) ?_
    refine g_get S hE.1 hG hmo rfl in_mo 1 (by decide) tw_492 (fun _ h9 => h9) rfl d_mo_isCell_6 ?_
    refine lv_icmp_ge (tgt := 28) hx hb d_mo_isCell_9 (by decide) (fun c9 => ?_) (fun c9 => ?_)
    · refine lv_iconst (v := 0) hx hb d_mo_isCell_28 (by decide) ?_
      exact W.zret hx hb hr rfl (fun t9 ht9 hW9 => ⟨_, rfl, (by first | exact Or.inl ⟨rfl, (by obtain ⟨k, hk, e1⟩ := rngD (show C < 2 ^ 31 by omega) c1 (Int32.not_le.mp c9); obtain ⟨j, hj, e2⟩ := rngD (show E < 2 ^ 31 by omega) c13 (Int32.not_le.mp c21); exact ⟨k, j, hk, hj, e1, e2⟩)⟩ | exact Or.inr ⟨rfl, fun ⟨k, j, hk, hj, e1, e2⟩ => by subst e1; subst e2; first | exact absurd c1 (nI_pos (by omega)) | exact absurd c9 (nI_ge hk (by omega)) | exact absurd c13 (nI_pos (by omega)) | exact absurd c21 (nI_ge hj (by omega))⟩), ht9⟩) (fun _ h => nomatch h) d_mo_isCell_29
    · refine lv_iload_n hx hb d_mo_isCell_12 rfl (lv_at hl 2 rfl) ?_
      refine lv_if_lt (tgt := 28) hx hb d_mo_isCell_13 (by decide) (fun c13 => ?_) (fun c13 => ?_)
      · refine lv_iconst (v := 0) hx hb d_mo_isCell_28 (by decide) ?_
        exact W.zret hx hb hr rfl (fun t9 ht9 hW9 => ⟨_, rfl, (by first | exact Or.inl ⟨rfl, (by obtain ⟨k, hk, e1⟩ := rngD (show C < 2 ^ 31 by omega) c1 (Int32.not_le.mp c9); obtain ⟨j, hj, e2⟩ := rngD (show E < 2 ^ 31 by omega) c13 (Int32.not_le.mp c21); exact ⟨k, j, hk, hj, e1, e2⟩)⟩ | exact Or.inr ⟨rfl, fun ⟨k, j, hk, hj, e1, e2⟩ => by subst e1; subst e2; first | exact absurd c1 (nI_pos (by omega)) | exact absurd c9 (nI_ge hk (by omega)) | exact absurd c13 (nI_pos (by omega)) | exact absurd c21 (nI_ge hj (by omega))⟩), ht9⟩) (fun _ h => nomatch h) d_mo_isCell_29
      · refine lv_iload_n hx hb d_mo_isCell_16 rfl (lv_at hl 2 rfl) ?_
        refine lv_aload_n hx hb d_mo_isCell_17 rfl (lv_at hl 0 rfl) ?_
        refine g_get S hE.1 hG hmo rfl in_mo 2 (by decide) tw_493 (fun _ h9 => h9) rfl d_mo_isCell_18 ?_
        refine lv_icmp_ge (tgt := 28) hx hb d_mo_isCell_21 (by decide) (fun c21 => ?_) (fun c21 => ?_)
        · refine lv_iconst (v := 0) hx hb d_mo_isCell_28 (by decide) ?_
          exact W.zret hx hb hr rfl (fun t9 ht9 hW9 => ⟨_, rfl, (by first | exact Or.inl ⟨rfl, (by obtain ⟨k, hk, e1⟩ := rngD (show C < 2 ^ 31 by omega) c1 (Int32.not_le.mp c9); obtain ⟨j, hj, e2⟩ := rngD (show E < 2 ^ 31 by omega) c13 (Int32.not_le.mp c21); exact ⟨k, j, hk, hj, e1, e2⟩)⟩ | exact Or.inr ⟨rfl, fun ⟨k, j, hk, hj, e1, e2⟩ => by subst e1; subst e2; first | exact absurd c1 (nI_pos (by omega)) | exact absurd c9 (nI_ge hk (by omega)) | exact absurd c13 (nI_pos (by omega)) | exact absurd c21 (nI_ge hj (by omega))⟩), ht9⟩) (fun _ h => nomatch h) d_mo_isCell_29
        · refine lv_iconst (v := 1) hx hb d_mo_isCell_24 (by decide) ?_
          refine lv_goto (tgt := 29) hx hb d_mo_isCell_25 (by decide) ?_
          exact W.zret hx hb hr rfl (fun t9 ht9 hW9 => ⟨_, rfl, (by first | exact Or.inl ⟨rfl, (by obtain ⟨k, hk, e1⟩ := rngD (show C < 2 ^ 31 by omega) c1 (Int32.not_le.mp c9); obtain ⟨j, hj, e2⟩ := rngD (show E < 2 ^ 31 by omega) c13 (Int32.not_le.mp c21); exact ⟨k, j, hk, hj, e1, e2⟩)⟩ | exact Or.inr ⟨rfl, fun ⟨k, j, hk, hj, e1, e2⟩ => by subst e1; subst e2; first | exact absurd c1 (nI_pos (by omega)) | exact absurd c9 (nI_ge hk (by omega)) | exact absurd c13 (nI_pos (by omega)) | exact absurd c21 (nI_ge hj (by omega))⟩), ht9⟩) (fun _ h => nomatch h) d_mo_isCell_29

set_option maxHeartbeats 600000 in
set_option maxRecDepth 100000 in
theorem c_mo_place (l : Launch) (Z : gZ) (G : gh) (mo i k j : Nat) : Met l y_mo_place (wd_mo_place :: Gall) ({ frames := 0, cells := 0, slots := 0, locals := 0 }) (va_Pc [.ref mo, .int (nI i), .int (nI k), .int (nI j)] (gPure Z G)) (vp_Si (fun r : Int32 => r = nI (32 * i + (8 * k + j)))) 0 0 (fun _ => False) := by
  refine Met.ofW (cc := b_mo_place) (maxL := 4) (ret := (some .int)) (by decide) rfl ?_
  intro p e s m args below meth c s₁ B hml hv
  obtain ⟨rfl, hG, hE⟩ := hv
  have hx := B.exec
  have hb := B.bytes
  have hr := B.returns
  have hlocks := B.notSynchronized
  have S : CallFix p m c b_mo_place 4 s _ Gall "PackSeedsModel" := ⟨hx, hb, hml, findClass_of_methodNamed B.named, fun w hw => atoms_spec (ws := wd_mo_place :: Gall) B.pre w (List.mem_cons_of_mem _ hw)⟩
  have hl := lv_entry ([.ref mo, .int (nI i), .int (nI k), .int (nI j)]) (n := 4) (Nat.le_of_ble_eq_true rfl)
  rw [lg_entry_eq]
  generalize (lg_sl ([.ref mo, .int (nI i), .int (nI k), .int (nI j)]) ++ List.replicate (4 - (lg_sl ([.ref mo, .int (nI i), .int (nI k), .int (nI j)])).length) Slot.unset).toArray = ls at hl ⊢
  have hl : lv_has ls 4 [(0, .ref mo), (1, .int (nI i)), (2, .int (nI k)), (3, .int (nI j))] := hl
  refine lv_bipush (v := nI 32) hx hb d_mo_place_0 (by decide) ?_
  refine lv_iload_n hx hb d_mo_place_2 rfl (lv_at hl 1 rfl) ?_
  refine lv_imul hx hb d_mo_place_3 ?_
  refine g_topi (y := nI (32 * i)) (pk_mul 32 i) ?_
  refine lv_bipush (v := nI 8) hx hb d_mo_place_4 (by decide) ?_
  refine lv_iload_n hx hb d_mo_place_6 rfl (lv_at hl 2 rfl) ?_
  refine lv_imul hx hb d_mo_place_7 ?_
  refine g_topi (y := nI (8 * k)) (pk_mul 8 k) ?_
  refine lv_iadd hx hb d_mo_place_8 ?_
  refine g_topi (y := nI ((32 * i) + (8 * k))) (nI_add (32 * i) (8 * k)) ?_
  refine lv_iload_n hx hb d_mo_place_9 rfl (lv_at hl 3 rfl) ?_
  refine lv_iadd hx hb d_mo_place_10 ?_
  refine g_topi (y := nI (((32 * i) + (8 * k)) + j)) (nI_add ((32 * i) + (8 * k)) j) ?_
  exact W.iret hx hb hr (fun t9 ht9 hW9 => ⟨_, rfl, (by rw [Nat.add_assoc]), ht9⟩) (fun _ h => nomatch h) d_mo_place_11

set_option maxHeartbeats 600000 in
set_option maxRecDepth 100000 in
theorem c_mo_left (l : Launch) (Z : gZ) (G : gh) (mo : Nat) {u1 u2 u3 u4 u5 u6 u7 : Nat} {th : Int32} {C E M D : Nat} {fl : Int32} {cf mf ff gf sf tf bf : Nat → Int32} (hP : moP Z G mo u1 u2 u3 u4 u5 u6 u7 th C E M D fl cf mf ff gf sf tf bf) {pt : Nat → Option Nat} {pd : Nat → Pat} (hR : Sim C E M pt pd cf mf ff gf sf) : Met l y_mo_left (wd_mo_left :: Gall) ({ frames := 0, cells := 0, slots := 0, locals := 0 }) (va_Pc [.ref mo] (gPure Z G)) (vp_Si (fun r : Int32 => r = nI (cntP pt pd 24))) 0 0 (fun _ => False) := by
  refine Met.ofW (cc := b_mo_left) (maxL := 3) (ret := (some .int)) (by decide) rfl ?_
  intro p e s m args below meth c s₁ B hml hv
  obtain ⟨rfl, hG, hE⟩ := hv
  have hx := B.exec
  have hb := B.bytes
  have hr := B.returns
  have hlocks := B.notSynchronized
  have S : CallFix p m c b_mo_left 3 s _ Gall "PackSeedsModel" := ⟨hx, hb, hml, findClass_of_methodNamed B.named, fun w hw => atoms_spec (ws := wd_mo_left :: Gall) B.pre w (List.mem_cons_of_mem _ hw)⟩
  have hl := lv_entry ([.ref mo]) (n := 3) (Nat.le_of_ble_eq_true rfl)
  rw [lg_entry_eq]
  generalize (lg_sl ([.ref mo]) ++ List.replicate (3 - (lg_sl ([.ref mo])).length) Slot.unset).toArray = ls at hl ⊢
  have hl : lv_has ls 3 [(0, .ref mo)] := hl
  have hP0 := hP
  obtain ⟨hmo, hc1, hc2, hc3, hc4, hc5, hc6, hc7, n12, n45, n67⟩ := hP
  have hM24 := hR.1
  refine lv_iconst (v := nI 0) hx hb d_mo_left_0 (by decide) ?_
  refine lv_istore_n (lv' := [(1, .int (nI 0)), (0, .ref mo)]) hx hb d_mo_left_1 rfl hl (by decide) rfl (fun ls hl => ?_)
  refine lv_iconst (v := nI 0) hx hb d_mo_left_2 (by decide) ?_
  refine lv_istore_n (lv' := [(2, .int (nI 0)), (1, .int (nI 0)), (0, .ref mo)]) hx hb d_mo_left_3 rfl hl (by decide) rfl (fun ls hl => ?_)
  refine g_ind (V := Nat × Nat) (fun (i, n) ls => (i ≤ M ∧ n = cntP pt pd i) ∧ lv_has ls 3 [(0, .ref mo), (1, .int (nI n)), (2, .int (nI i))]) (fun (i, n) => M - i) ?_ (0, 0) _ ⟨⟨Nat.zero_le _, rfl⟩, lv_sub hl [2, 1, 0] rfl⟩
  intro v ls hI ih4
  obtain ⟨i, n⟩ := v
  obtain ⟨⟨hi, hn⟩, hl⟩ := hI
  refine lv_iload_n hx hb d_mo_left_4 rfl (lv_at hl 2 rfl) ?_
  refine lv_aload_n hx hb d_mo_left_5 rfl (lv_at hl 0 rfl) ?_
  refine g_get S hE.1 hG hmo rfl in_mo 8 (by decide) tw_499 (fun _ h9 => h9) rfl d_mo_left_6 ?_
  refine g_ge (tgt := 35) hx hb d_mo_left_9 (by decide) (by omega) (by omega) (fun c9 => ?_) (fun c9 => ?_)
  · refine lv_iload_n hx hb d_mo_left_35 rfl (lv_at hl 1 rfl) ?_
    exact W.iret hx hb hr (fun t9 ht9 hW9 => ⟨_, rfl, (by rw [hn, show i = M by omega, hR.cntP]), ht9⟩) (fun _ h => nomatch h) d_mo_left_36
  · refine lv_aload_n hx hb d_mo_left_12 rfl (lv_at hl 0 rfl) ?_
    refine g_get S hE.1 hG hmo rfl in_mo 6 (by decide) tw_497 (fun _ h9 => h9) rfl d_mo_left_13 ?_
    refine lv_iload_n hx hb d_mo_left_16 rfl (lv_at hl 2 rfl) ?_
    refine g_zald S hE.1 hG hc4 2 rfl (vp_in_nI (by omega) (by omega)) d_mo_left_17 ?_
    refine g_topi (congrArg gf (nI_clamp (show i < 2 ^ 31 by omega))) ?_
    refine lv_if_eq (tgt := 25) hx hb d_mo_left_18 (by decide) (fun c18 => ?_) (fun c18 => ?_)
    · refine lv_iload_n hx hb d_mo_left_25 rfl (lv_at hl 1 rfl) ?_
      refine lv_iconst (v := nI 1) hx hb d_mo_left_26 (by decide) ?_
      refine lv_iadd hx hb d_mo_left_27 ?_
      refine g_topi (y := nI (n + 1)) (nI_add n 1) ?_
      refine lv_istore_n (lv' := [(1, .int (nI (n + 1))), (0, .ref mo), (2, .int (nI i))]) hx hb d_mo_left_28 rfl hl (by decide) rfl (fun ls hl => ?_)
      refine lv_iinc (v := nI (i + 1)) (lv' := [(2, .int (nI (i + 1))), (1, .int (nI (n + 1))), (0, .ref mo)]) hx hb d_mo_left_29 hl (k := 2) rfl (show nI i + 1 = _ from nI_1 i) (by decide) rfl (fun ls hl => ?_)
      refine lv_goto (tgt := 4) hx hb d_mo_left_32 (by decide) ?_
      exact ih4 ((i + 1), (n + 1)) _ ⟨⟨by omega, by
          subst hn; simp only [cntP, itr_s]
          first | rw [if_pos ((hR.pr (by omega)).mpr ⟨by omega, c18⟩)] | rw [if_neg (fun z => c18 ((hR.pr (by omega)).mp z).2)]⟩, lv_sub hl [2, 1, 0] rfl⟩ (by first | omega | (simp only []; omega))
    · refine lv_iload_n hx hb d_mo_left_21 rfl (lv_at hl 1 rfl) ?_
      refine lv_goto (tgt := 28) hx hb d_mo_left_22 (by decide) ?_
      refine lv_istore_n (lv' := [(1, .int (nI n)), (0, .ref mo), (2, .int (nI i))]) hx hb d_mo_left_28 rfl hl (by decide) rfl (fun ls hl => ?_)
      refine lv_iinc (v := nI (i + 1)) (lv' := [(2, .int (nI (i + 1))), (1, .int (nI n)), (0, .ref mo)]) hx hb d_mo_left_29 hl (k := 2) rfl (show nI i + 1 = _ from nI_1 i) (by decide) rfl (fun ls hl => ?_)
      refine lv_goto (tgt := 4) hx hb d_mo_left_32 (by decide) ?_
      exact ih4 ((i + 1), n) _ ⟨⟨by omega, by
          subst hn; simp only [cntP, itr_s]
          first | rw [if_pos ((hR.pr (by omega)).mpr ⟨by omega, c18⟩)] | rw [if_neg (fun z => c18 ((hR.pr (by omega)).mp z).2)]⟩, lv_sub hl [2, 1, 0] rfl⟩ (by first | omega | (simp only []; omega))

set_option maxHeartbeats 600000 in
set_option maxRecDepth 100000 in
theorem c_mo_findersOf (l : Launch) (Z : gZ) (G : gh) (mo : Nat) {u1 u2 u3 u4 u5 u6 u7 : Nat} {th : Int32} {C E M D : Nat} {fl : Int32} {cf mf ff gf sf tf bf : Nat → Int32} (hP : moP Z G mo u1 u2 u3 u4 u5 u6 u7 th C E M D fl cf mf ff gf sf tf bf) {pt : Nat → Option Nat} {pd : Nat → Pat} (hR : Sim C E M pt pd cf mf ff gf sf) (f : Nat) (hf : f < 31) : Met l y_mo_findersOf (wd_mo_findersOf :: Gall) ({ frames := 0, cells := 0, slots := 0, locals := 0 }) (va_Pc [.ref mo, .int (nI f)] (gPure Z G)) (vp_Si (fun r : Int32 => r = nI (cntF pt pd (on1 f) 24))) 0 0 (fun _ => False) := by
  refine Met.ofW (cc := b_mo_findersOf) (maxL := 4) (ret := (some .int)) (by decide) rfl ?_
  intro p e s m args below meth c s₁ B hml hv
  obtain ⟨rfl, hG, hE⟩ := hv
  have hx := B.exec
  have hb := B.bytes
  have hr := B.returns
  have hlocks := B.notSynchronized
  have S : CallFix p m c b_mo_findersOf 4 s _ Gall "PackSeedsModel" := ⟨hx, hb, hml, findClass_of_methodNamed B.named, fun w hw => atoms_spec (ws := wd_mo_findersOf :: Gall) B.pre w (List.mem_cons_of_mem _ hw)⟩
  have hl := lv_entry ([.ref mo, .int (nI f)]) (n := 4) (Nat.le_of_ble_eq_true rfl)
  rw [lg_entry_eq]
  generalize (lg_sl ([.ref mo, .int (nI f)]) ++ List.replicate (4 - (lg_sl ([.ref mo, .int (nI f)])).length) Slot.unset).toArray = ls at hl ⊢
  have hl : lv_has ls 4 [(0, .ref mo), (1, .int (nI f))] := hl
  have hP0 := hP
  obtain ⟨hmo, hc1, hc2, hc3, hc4, hc5, hc6, hc7, n12, n45, n67⟩ := hP
  have hM24 := hR.1
  refine lv_iconst (v := nI 0) hx hb d_mo_findersOf_0 (by decide) ?_
  refine lv_istore_n (lv' := [(2, .int (nI 0)), (0, .ref mo), (1, .int (nI f))]) hx hb d_mo_findersOf_1 rfl hl (by decide) rfl (fun ls hl => ?_)
  refine lv_iconst (v := nI 0) hx hb d_mo_findersOf_2 (by decide) ?_
  refine lv_istore_n (lv' := [(3, .int (nI 0)), (2, .int (nI 0)), (0, .ref mo), (1, .int (nI f))]) hx hb d_mo_findersOf_3 rfl hl (by decide) rfl (fun ls hl => ?_)
  refine g_ind (V := Nat × Nat) (fun (i, n) ls => (i ≤ M ∧ n = cntF pt pd (on1 f) i) ∧ lv_has ls 4 [(0, .ref mo), (1, .int (nI f)), (2, .int (nI n)), (3, .int (nI i))]) (fun (i, n) => M - i) ?_ (0, 0) _ ⟨⟨Nat.zero_le _, rfl⟩, lv_sub hl [2, 3, 1, 0] rfl⟩
  intro v ls hI ih4
  obtain ⟨i, n⟩ := v
  obtain ⟨⟨hi, hn⟩, hl⟩ := hI
  refine lv_iload_n hx hb d_mo_findersOf_4 rfl (lv_at hl 3 rfl) ?_
  refine lv_aload_n hx hb d_mo_findersOf_5 rfl (lv_at hl 0 rfl) ?_
  refine g_get S hE.1 hG hmo rfl in_mo 8 (by decide) tw_499 (fun _ h9 => h9) rfl d_mo_findersOf_6 ?_
  refine g_ge (tgt := 49) hx hb d_mo_findersOf_9 (by decide) (by omega) (by omega) (fun c9 => ?_) (fun c9 => ?_)
  · refine lv_iload_n hx hb d_mo_findersOf_49 rfl (lv_at hl 2 rfl) ?_
    exact W.iret hx hb hr (fun t9 ht9 hW9 => ⟨_, rfl, (by rw [hn, show i = M by omega, hR.cntF]), ht9⟩) (fun _ h => nomatch h) d_mo_findersOf_50
  · refine lv_aload_n hx hb d_mo_findersOf_12 rfl (lv_at hl 0 rfl) ?_
    refine g_get S hE.1 hG hmo rfl in_mo 6 (by decide) tw_497 (fun _ h9 => h9) rfl d_mo_findersOf_13 ?_
    refine lv_iload_n hx hb d_mo_findersOf_16 rfl (lv_at hl 3 rfl) ?_
    refine g_zald S hE.1 hG hc4 2 rfl (vp_in_nI (by omega) (by omega)) d_mo_findersOf_17 ?_
    refine g_topi (congrArg gf (nI_clamp (show i < 2 ^ 31 by omega))) ?_
    refine lv_if_ne (tgt := 41) hx hb d_mo_findersOf_18 (by decide) (fun c18 => ?_) (fun c18 => ?_)
    · refine lv_iload_n hx hb d_mo_findersOf_41 rfl (lv_at hl 2 rfl) ?_
      refine lv_istore_n (lv' := [(2, .int (nI n)), (0, .ref mo), (1, .int (nI f)), (3, .int (nI i))]) hx hb d_mo_findersOf_42 rfl hl (by decide) rfl (fun ls hl => ?_)
      refine lv_iinc (v := nI (i + 1)) (lv' := [(3, .int (nI (i + 1))), (2, .int (nI n)), (0, .ref mo), (1, .int (nI f))]) hx hb d_mo_findersOf_43 hl (k := 3) rfl (show nI i + 1 = _ from nI_1 i) (by decide) rfl (fun ls hl => ?_)
      refine lv_goto (tgt := 4) hx hb d_mo_findersOf_46 (by decide) ?_
      exact ih4 ((i + 1), n) _ ⟨⟨by omega, by
          subst hn; simp only [cntF, itr_s]
          have hq := hR.fnd (i := i) (by omega) hf
          first | rw [if_pos (hq.mpr ⟨c18, c32⟩)] | rw [if_neg (fun z => c18 (hq.mp z).1)] | rw [if_neg (fun z => (hq.mp z).2 c32)]⟩, lv_sub hl [2, 3, 1, 0] rfl⟩ (by first | omega | (simp only []; omega))
    · refine lv_aload_n hx hb d_mo_findersOf_21 rfl (lv_at hl 0 rfl) ?_
      refine g_get S hE.1 hG hmo rfl in_mo 5 (by decide) tw_496 (fun _ h9 => h9) rfl d_mo_findersOf_22 ?_
      refine lv_bipush (v := nI 31) hx hb d_mo_findersOf_25 (by decide) ?_
      refine lv_iload_n hx hb d_mo_findersOf_27 rfl (lv_at hl 3 rfl) ?_
      refine lv_imul hx hb d_mo_findersOf_28 ?_
      refine g_topi (y := nI (31 * i)) (pk_mul 31 i) ?_
      refine lv_iload_n hx hb d_mo_findersOf_29 rfl (lv_at hl 1 rfl) ?_
      refine lv_iadd hx hb d_mo_findersOf_30 ?_
      refine g_topi (y := nI ((31 * i) + f)) (nI_add (31 * i) f) ?_
      refine g_zald S hE.1 hG hc3 2 rfl (vp_in_nI (by omega) (by omega)) d_mo_findersOf_31 ?_
      refine g_topi (congrArg ff (nI_clamp (show ((31 * i) + f) < 2 ^ 31 by omega))) ?_
      refine lv_if_eq (tgt := 41) hx hb d_mo_findersOf_32 (by decide) (fun c32 => ?_) (fun c32 => ?_)
      · refine lv_iload_n hx hb d_mo_findersOf_41 rfl (lv_at hl 2 rfl) ?_
        refine lv_istore_n (lv' := [(2, .int (nI n)), (0, .ref mo), (1, .int (nI f)), (3, .int (nI i))]) hx hb d_mo_findersOf_42 rfl hl (by decide) rfl (fun ls hl => ?_)
        refine lv_iinc (v := nI (i + 1)) (lv' := [(3, .int (nI (i + 1))), (2, .int (nI n)), (0, .ref mo), (1, .int (nI f))]) hx hb d_mo_findersOf_43 hl (k := 3) rfl (show nI i + 1 = _ from nI_1 i) (by decide) rfl (fun ls hl => ?_)
        refine lv_goto (tgt := 4) hx hb d_mo_findersOf_46 (by decide) ?_
        exact ih4 ((i + 1), n) _ ⟨⟨by omega, by
            subst hn; simp only [cntF, itr_s]
            have hq := hR.fnd (i := i) (by omega) hf
            first | rw [if_pos (hq.mpr ⟨c18, c32⟩)] | rw [if_neg (fun z => c18 (hq.mp z).1)] | rw [if_neg (fun z => (hq.mp z).2 c32)]⟩, lv_sub hl [2, 3, 1, 0] rfl⟩ (by first | omega | (simp only []; omega))
      · refine lv_iload_n hx hb d_mo_findersOf_35 rfl (lv_at hl 2 rfl) ?_
        refine lv_iconst (v := nI 1) hx hb d_mo_findersOf_36 (by decide) ?_
        refine lv_iadd hx hb d_mo_findersOf_37 ?_
        refine g_topi (y := nI (n + 1)) (nI_add n 1) ?_
        refine lv_goto (tgt := 42) hx hb d_mo_findersOf_38 (by decide) ?_
        refine lv_istore_n (lv' := [(2, .int (nI (n + 1))), (0, .ref mo), (1, .int (nI f)), (3, .int (nI i))]) hx hb d_mo_findersOf_42 rfl hl (by decide) rfl (fun ls hl => ?_)
        refine lv_iinc (v := nI (i + 1)) (lv' := [(3, .int (nI (i + 1))), (2, .int (nI (n + 1))), (0, .ref mo), (1, .int (nI f))]) hx hb d_mo_findersOf_43 hl (k := 3) rfl (show nI i + 1 = _ from nI_1 i) (by decide) rfl (fun ls hl => ?_)
        refine lv_goto (tgt := 4) hx hb d_mo_findersOf_46 (by decide) ?_
        exact ih4 ((i + 1), (n + 1)) _ ⟨⟨by omega, by
            subst hn; simp only [cntF, itr_s]
            have hq := hR.fnd (i := i) (by omega) hf
            first | rw [if_pos (hq.mpr ⟨c18, c32⟩)] | rw [if_neg (fun z => c18 (hq.mp z).1)] | rw [if_neg (fun z => (hq.mp z).2 c32)]⟩, lv_sub hl [2, 3, 1, 0] rfl⟩ (by first | omega | (simp only []; omega))

set_option maxHeartbeats 600000 in
set_option maxRecDepth 100000 in
theorem c_mo_goTogether (l : Launch) (Z : gZ) (G : gh) (mo : Nat) {u1 u2 u3 u4 u5 u6 u7 : Nat} {th : Int32} {C E M D : Nat} {fl : Int32} {cf mf ff gf sf tf bf : Nat → Int32} (hP : moP Z G mo u1 u2 u3 u4 u5 u6 u7 th C E M D fl cf mf ff gf sf tf bf) {pt : Nat → Option Nat} {pd : Nat → Pat} (hR : Sim C E M pt pd cf mf ff gf sf) (p0 q0 : Nat) (hp : p0 < M) (hq : q0 < M) (hgp : gf p0 = 0) (hgq : gf q0 = 0) : Met l y_mo_goTogether (wd_mo_goTogether :: Gall) ({ frames := 0, cells := 0, slots := 0, locals := 0 }) (va_Pc [.ref mo, .int (nI p0), .int (nI q0)] (gPure Z G)) (vp_Si (fun r : Int32 => (r = 1 ∧ ¬ gowC (pca (pd p0)) (pva (pd p0)) (pca (pd q0)) (pva (pd q0)) = 0) ∨ (r = 0 ∧ gowC (pca (pd p0)) (pva (pd p0)) (pca (pd q0)) (pva (pd q0)) = 0))) 0 0 (fun _ => False) := by
  refine Met.ofW (cc := b_mo_goTogether) (maxL := 7) (ret := (some .boolean)) (by decide) rfl ?_
  intro p e s m args below meth c s₁ B hml hv
  obtain ⟨rfl, hG, hE⟩ := hv
  have hx := B.exec
  have hb := B.bytes
  have hr := B.returns
  have hlocks := B.notSynchronized
  have S : CallFix p m c b_mo_goTogether 7 s _ Gall "PackSeedsModel" := ⟨hx, hb, hml, findClass_of_methodNamed B.named, fun w hw => atoms_spec (ws := wd_mo_goTogether :: Gall) B.pre w (List.mem_cons_of_mem _ hw)⟩
  have hl := lv_entry ([.ref mo, .int (nI p0), .int (nI q0)]) (n := 7) (Nat.le_of_ble_eq_true rfl)
  rw [lg_entry_eq]
  generalize (lg_sl ([.ref mo, .int (nI p0), .int (nI q0)]) ++ List.replicate (7 - (lg_sl ([.ref mo, .int (nI p0), .int (nI q0)])).length) Slot.unset).toArray = ls at hl ⊢
  have hl : lv_has ls 7 [(0, .ref mo), (1, .int (nI p0)), (2, .int (nI q0))] := hl
  have hP0 := hP
  obtain ⟨hmo, hc1, hc2, hc3, hc4, hc5, hc6, hc7, n12, n45, n67⟩ := hP
  have hM24 := hR.1
  refine lv_iconst (v := 1) hx hb d_mo_goTogether_0 (by decide) ?_
  refine lv_istore_n (lv' := [(3, .int 1), (0, .ref mo), (1, .int (nI p0)), (2, .int (nI q0))]) hx hb d_mo_goTogether_1 rfl hl (by decide) rfl (fun ls hl => ?_)
  refine lv_iconst (v := nI 0) hx hb d_mo_goTogether_2 (by decide) ?_
  refine lv_istore (lv' := [(4, .int (nI 0)), (3, .int 1), (0, .ref mo), (1, .int (nI p0)), (2, .int (nI q0))]) hx hb d_mo_goTogether_3 hl (by decide) rfl (fun ls hl => ?_)
  refine g_ind (V := Nat × Int32) (fun (k, b) ls => (k ≤ 32 ∧ ((b = 1 ∧ ∀ i, i < k → gtC (cf (32 * p0 + i)) (cf (32 * q0 + i))) ∨ (b = 0 ∧ ¬ ∀ i, i < k → gtC (cf (32 * p0 + i)) (cf (32 * q0 + i))))) ∧ lv_has ls 7 [(0, .ref mo), (1, .int (nI p0)), (2, .int (nI q0)), (3, .int b), (4, .int (nI k))]) (fun (k, b) => 32 - k) ?_ (0, 1) _ ⟨⟨Nat.zero_le _, Or.inl ⟨rfl, fun i hi => by omega⟩⟩, lv_sub hl [2, 3, 4, 1, 0] rfl⟩
  intro v ls hI ih5
  obtain ⟨k, b⟩ := v
  obtain ⟨⟨hk, hb1⟩, hl⟩ := hI
  refine lv_iload hx hb d_mo_goTogether_5 (lv_at hl 4 rfl) ?_
  refine lv_bipush (v := nI 32) hx hb d_mo_goTogether_7 (by decide) ?_
  refine g_ge (tgt := 75) hx hb d_mo_goTogether_9 (by decide) (by omega) (by omega) (fun c9 => ?_) (fun c9 => ?_)
  · refine lv_iload_n hx hb d_mo_goTogether_75 rfl (lv_at hl 3 rfl) ?_
    exact W.zret hx hb hr (by rcases hb1 with h | h <;> rw [h.1] <;> rfl) (fun t9 ht9 hW9 => ⟨_, rfl, (by
        have e1 : k = 32 := by omega
        have s1 := (hR.2.2.2.2.1 p0 hp hgp).2.1
        have s2 := (hR.2.2.2.2.1 q0 hq hgq).2.1
        have e2 : (∀ i, i < 32 → gtC (cf (32 * p0 + i)) (cf (32 * q0 + i))) ↔ ∀ i, i < 32 → gtC (cvC (pd p0) i) (cvC (pd q0) i) := by
          constructor
          · intro h i hi; rw [← s1 i hi, ← s2 i hi]; exact h i hi
          · intro h i hi; rw [s1 i hi, s2 i hi]; exact h i hi
        rw [e1, e2, ← gow_cv] at hb1
        rcases hb1 with h | h
        · exact Or.inl h
        · exact Or.inr ⟨h.1, Decidable.not_not.mp h.2⟩), ht9⟩) (fun _ h => nomatch h) d_mo_goTogether_76
  · refine lv_aload_n hx hb d_mo_goTogether_12 rfl (lv_at hl 0 rfl) ?_
    refine g_get S hE.1 hG hmo rfl in_mo 3 (by decide) tw_494 (fun _ h9 => h9) rfl d_mo_goTogether_13 ?_
    refine lv_bipush (v := nI 32) hx hb d_mo_goTogether_16 (by decide) ?_
    refine lv_iload_n hx hb d_mo_goTogether_18 rfl (lv_at hl 1 rfl) ?_
    refine lv_imul hx hb d_mo_goTogether_19 ?_
    refine g_topi (y := nI (32 * p0)) (pk_mul 32 p0) ?_
    refine lv_iload hx hb d_mo_goTogether_20 (lv_at hl 4 rfl) ?_
    refine lv_iadd hx hb d_mo_goTogether_22 ?_
    refine g_topi (y := nI ((32 * p0) + k)) (nI_add (32 * p0) k) ?_
    refine g_iald S hE.1 hG hc1 1 rfl (vp_in_nI (by omega) (by omega)) d_mo_goTogether_23 ?_
    refine g_topi (congrArg cf (nI_clamp (show ((32 * p0) + k) < 2 ^ 31 by omega))) ?_
    refine lv_topi (fun x24 e24 => ?_)
    refine lv_istore (lv' := [(5, .int x24), (0, .ref mo), (1, .int (nI p0)), (2, .int (nI q0)), (3, .int b), (4, .int (nI k))]) hx hb d_mo_goTogether_24 hl (by decide) rfl (fun ls hl => ?_)
    refine lv_aload_n hx hb d_mo_goTogether_26 rfl (lv_at hl 1 rfl) ?_
    refine g_get S hE.1 hG hmo rfl in_mo 3 (by decide) tw_494 (fun _ h9 => h9) rfl d_mo_goTogether_27 ?_
    refine lv_bipush (v := nI 32) hx hb d_mo_goTogether_30 (by decide) ?_
    refine lv_iload_n hx hb d_mo_goTogether_32 rfl (lv_at hl 3 rfl) ?_
    refine lv_imul hx hb d_mo_goTogether_33 ?_
    refine g_topi (y := nI (32 * q0)) (pk_mul 32 q0) ?_
    refine lv_iload hx hb d_mo_goTogether_34 (lv_at hl 5 rfl) ?_
    refine lv_iadd hx hb d_mo_goTogether_36 ?_
    refine g_topi (y := nI ((32 * q0) + k)) (nI_add (32 * q0) k) ?_
    refine g_iald S hE.1 hG hc1 1 rfl (vp_in_nI (by omega) (by omega)) d_mo_goTogether_37 ?_
    refine g_topi (congrArg cf (nI_clamp (show ((32 * q0) + k) < 2 ^ 31 by omega))) ?_
    refine lv_topi (fun x38 e38 => ?_)
    refine lv_istore (lv' := [(6, .int x38), (5, .int x24), (0, .ref mo), (1, .int (nI p0)), (2, .int (nI q0)), (3, .int b), (4, .int (nI k))]) hx hb d_mo_goTogether_38 hl (by decide) rfl (fun ls hl => ?_)
    refine lv_iload_n hx hb d_mo_goTogether_40 rfl (lv_at hl 5 rfl) ?_
    refine lv_if_eq (tgt := 67) hx hb d_mo_goTogether_41 (by decide) (fun c41 => ?_) (fun c41 => ?_)
    · refine lv_iconst (v := 0) hx hb d_mo_goTogether_67 (by decide) ?_
      refine lv_istore_n (lv' := [(3, .int 0), (6, .int x38), (5, .int x24), (0, .ref mo), (1, .int (nI p0)), (2, .int (nI q0)), (4, .int (nI k))]) hx hb d_mo_goTogether_68 rfl hl (by decide) rfl (fun ls hl => ?_)
      refine lv_iinc (v := nI (k + 1)) (lv' := [(4, .int (nI (k + 1))), (3, .int 0), (6, .int x38), (5, .int x24), (0, .ref mo), (1, .int (nI p0)), (2, .int (nI q0))]) hx hb d_mo_goTogether_69 hl (k := 6) rfl (show nI k + 1 = _ from nI_1 k) (by decide) rfl (fun ls hl => ?_)
      refine lv_goto (tgt := 5) hx hb d_mo_goTogether_72 (by decide) ?_
      exact ih5 ((k + 1), 0) _ ⟨⟨by omega, gtStep hb1 (by first | exact Or.inl ⟨rfl, by first | exact c41 | (rw [e24, e38] at *), by first | exact Or.inl (by rw [← e24]; exact c47) | exact Or.inr (Or.inl (by rw [← e38]; exact c53)) | exact Or.inr (Or.inr (by rw [← e24, ← e38]; exact c60))⟩ | exact Or.inr ⟨rfl, by first | exact Or.inl c41 | exact Or.inr (fun z => by rcases z with z | z | z; exact c47 (by rw [e24]; exact z); exact c53 (by rw [e38]; exact z); exact c60 (by rw [e24, e38]; exact z))⟩)⟩, lv_sub hl [4, 5, 6, 1, 0] rfl⟩ (by first | omega | (simp only []; omega))
    · refine lv_iload hx hb d_mo_goTogether_44 (lv_at hl 1 rfl) ?_
      refine lv_iconst (v := (-1)) hx hb d_mo_goTogether_46 (by decide) ?_
      refine lv_icmp_eq (tgt := 63) hx hb d_mo_goTogether_47 (by decide) (fun c47 => ?_) (fun c47 => ?_)
      · refine lv_iconst (v := 1) hx hb d_mo_goTogether_63 (by decide) ?_
        refine lv_goto (tgt := 68) hx hb d_mo_goTogether_64 (by decide) ?_
        refine lv_istore_n (lv' := [(3, .int 1), (6, .int x38), (5, .int x24), (0, .ref mo), (1, .int (nI p0)), (2, .int (nI q0)), (4, .int (nI k))]) hx hb d_mo_goTogether_68 rfl hl (by decide) rfl (fun ls hl => ?_)
        refine lv_iinc (v := nI (k + 1)) (lv' := [(4, .int (nI (k + 1))), (3, .int 1), (6, .int x38), (5, .int x24), (0, .ref mo), (1, .int (nI p0)), (2, .int (nI q0))]) hx hb d_mo_goTogether_69 hl (k := 6) rfl (show nI k + 1 = _ from nI_1 k) (by decide) rfl (fun ls hl => ?_)
        refine lv_goto (tgt := 5) hx hb d_mo_goTogether_72 (by decide) ?_
        exact ih5 ((k + 1), 1) _ ⟨⟨by omega, gtStep hb1 (by first | exact Or.inl ⟨rfl, by first | exact c41 | (rw [e24, e38] at *), by first | exact Or.inl (by rw [← e24]; exact c47) | exact Or.inr (Or.inl (by rw [← e38]; exact c53)) | exact Or.inr (Or.inr (by rw [← e24, ← e38]; exact c60))⟩ | exact Or.inr ⟨rfl, by first | exact Or.inl c41 | exact Or.inr (fun z => by rcases z with z | z | z; exact c47 (by rw [e24]; exact z); exact c53 (by rw [e38]; exact z); exact c60 (by rw [e24, e38]; exact z))⟩)⟩, lv_sub hl [4, 5, 6, 1, 0] rfl⟩ (by first | omega | (simp only []; omega))
      · refine lv_iload hx hb d_mo_goTogether_50 (lv_at hl 0 rfl) ?_
        refine lv_iconst (v := (-1)) hx hb d_mo_goTogether_52 (by decide) ?_
        refine lv_icmp_eq (tgt := 63) hx hb d_mo_goTogether_53 (by decide) (fun c53 => ?_) (fun c53 => ?_)
        · refine lv_iconst (v := 1) hx hb d_mo_goTogether_63 (by decide) ?_
          refine lv_goto (tgt := 68) hx hb d_mo_goTogether_64 (by decide) ?_
          refine lv_istore_n (lv' := [(3, .int 1), (6, .int x38), (5, .int x24), (0, .ref mo), (1, .int (nI p0)), (2, .int (nI q0)), (4, .int (nI k))]) hx hb d_mo_goTogether_68 rfl hl (by decide) rfl (fun ls hl => ?_)
          refine lv_iinc (v := nI (k + 1)) (lv' := [(4, .int (nI (k + 1))), (3, .int 1), (6, .int x38), (5, .int x24), (0, .ref mo), (1, .int (nI p0)), (2, .int (nI q0))]) hx hb d_mo_goTogether_69 hl (k := 6) rfl (show nI k + 1 = _ from nI_1 k) (by decide) rfl (fun ls hl => ?_)
          refine lv_goto (tgt := 5) hx hb d_mo_goTogether_72 (by decide) ?_
          exact ih5 ((k + 1), 1) _ ⟨⟨by omega, gtStep hb1 (by first | exact Or.inl ⟨rfl, by first | exact c41 | (rw [e24, e38] at *), by first | exact Or.inl (by rw [← e24]; exact c47) | exact Or.inr (Or.inl (by rw [← e38]; exact c53)) | exact Or.inr (Or.inr (by rw [← e24, ← e38]; exact c60))⟩ | exact Or.inr ⟨rfl, by first | exact Or.inl c41 | exact Or.inr (fun z => by rcases z with z | z | z; exact c47 (by rw [e24]; exact z); exact c53 (by rw [e38]; exact z); exact c60 (by rw [e24, e38]; exact z))⟩)⟩, lv_sub hl [4, 5, 6, 1, 0] rfl⟩ (by first | omega | (simp only []; omega))
        · refine lv_iload hx hb d_mo_goTogether_56 (lv_at hl 1 rfl) ?_
          refine lv_iload hx hb d_mo_goTogether_58 (lv_at hl 0 rfl) ?_
          refine lv_icmp_ne (tgt := 67) hx hb d_mo_goTogether_60 (by decide) (fun c60 => ?_) (fun c60 => ?_)
          · refine lv_iconst (v := 0) hx hb d_mo_goTogether_67 (by decide) ?_
            refine lv_istore_n (lv' := [(3, .int 0), (6, .int x38), (5, .int x24), (0, .ref mo), (1, .int (nI p0)), (2, .int (nI q0)), (4, .int (nI k))]) hx hb d_mo_goTogether_68 rfl hl (by decide) rfl (fun ls hl => ?_)
            refine lv_iinc (v := nI (k + 1)) (lv' := [(4, .int (nI (k + 1))), (3, .int 0), (6, .int x38), (5, .int x24), (0, .ref mo), (1, .int (nI p0)), (2, .int (nI q0))]) hx hb d_mo_goTogether_69 hl (k := 6) rfl (show nI k + 1 = _ from nI_1 k) (by decide) rfl (fun ls hl => ?_)
            refine lv_goto (tgt := 5) hx hb d_mo_goTogether_72 (by decide) ?_
            exact ih5 ((k + 1), 0) _ ⟨⟨by omega, gtStep hb1 (by first | exact Or.inl ⟨rfl, by first | exact c41 | (rw [e24, e38] at *), by first | exact Or.inl (by rw [← e24]; exact c47) | exact Or.inr (Or.inl (by rw [← e38]; exact c53)) | exact Or.inr (Or.inr (by rw [← e24, ← e38]; exact c60))⟩ | exact Or.inr ⟨rfl, by first | exact Or.inl c41 | exact Or.inr (fun z => by rcases z with z | z | z; exact c47 (by rw [e24]; exact z); exact c53 (by rw [e38]; exact z); exact c60 (by rw [e24, e38]; exact z))⟩)⟩, lv_sub hl [4, 5, 6, 1, 0] rfl⟩ (by first | omega | (simp only []; omega))
          · refine lv_iconst (v := 1) hx hb d_mo_goTogether_63 (by decide) ?_
            refine lv_goto (tgt := 68) hx hb d_mo_goTogether_64 (by decide) ?_
            refine lv_istore_n (lv' := [(3, .int 1), (6, .int x38), (5, .int x24), (0, .ref mo), (1, .int (nI p0)), (2, .int (nI q0)), (4, .int (nI k))]) hx hb d_mo_goTogether_68 rfl hl (by decide) rfl (fun ls hl => ?_)
            refine lv_iinc (v := nI (k + 1)) (lv' := [(4, .int (nI (k + 1))), (3, .int 1), (6, .int x38), (5, .int x24), (0, .ref mo), (1, .int (nI p0)), (2, .int (nI q0))]) hx hb d_mo_goTogether_69 hl (k := 6) rfl (show nI k + 1 = _ from nI_1 k) (by decide) rfl (fun ls hl => ?_)
            refine lv_goto (tgt := 5) hx hb d_mo_goTogether_72 (by decide) ?_
            exact ih5 ((k + 1), 1) _ ⟨⟨by omega, gtStep hb1 (by first | exact Or.inl ⟨rfl, by first | exact c41 | (rw [e24, e38] at *), by first | exact Or.inl (by rw [← e24]; exact c47) | exact Or.inr (Or.inl (by rw [← e38]; exact c53)) | exact Or.inr (Or.inr (by rw [← e24, ← e38]; exact c60))⟩ | exact Or.inr ⟨rfl, by first | exact Or.inl c41 | exact Or.inr (fun z => by rcases z with z | z | z; exact c47 (by rw [e24]; exact z); exact c53 (by rw [e38]; exact z); exact c60 (by rw [e24, e38]; exact z))⟩)⟩, lv_sub hl [4, 5, 6, 1, 0] rfl⟩ (by first | omega | (simp only []; omega))

set_option maxHeartbeats 600000 in
set_option maxRecDepth 100000 in
theorem c_mo_step (l : Launch) (Z : gZ) (G : gh) (mo : Nat) {u1 u2 u3 u4 u5 u6 u7 : Nat} {th : Int32} {C E M D : Nat} {fl : Int32} {cf mf ff gf sf tf bf : Nat → Int32} (hP : moP Z G mo u1 u2 u3 u4 u5 u6 u7 th C E M D fl cf mf ff gf sf tf bf) {tp : Int32} (hT : simT D tp tf) (x : Int32) : Met l y_mo_step (wd_mo_step :: Gall) ({ frames := 0, cells := 0, slots := 0, locals := 0 }) (va_Pc [.ref mo, .int x] (gPure Z G)) (vp_Si (fun r : Int32 => r = stepC (nI D) tp x)) 0 0 (fun _ => False) := by
  refine Met.ofW (cc := b_mo_step) (maxL := 4) (ret := (some .int)) (by decide) rfl ?_
  intro p e s m args below meth c s₁ B hml hv
  obtain ⟨rfl, hG, hE⟩ := hv
  have hx := B.exec
  have hb := B.bytes
  have hr := B.returns
  have hlocks := B.notSynchronized
  have S : CallFix p m c b_mo_step 4 s _ Gall "PackSeedsModel" := ⟨hx, hb, hml, findClass_of_methodNamed B.named, fun w hw => atoms_spec (ws := wd_mo_step :: Gall) B.pre w (List.mem_cons_of_mem _ hw)⟩
  have hl := lv_entry ([.ref mo, .int x]) (n := 4) (Nat.le_of_ble_eq_true rfl)
  rw [lg_entry_eq]
  generalize (lg_sl ([.ref mo, .int x]) ++ List.replicate (4 - (lg_sl ([.ref mo, .int x])).length) Slot.unset).toArray = ls at hl ⊢
  have hl : lv_has ls 4 [(0, .ref mo), (1, .int x)] := hl
  have hP0 := hP
  obtain ⟨hmo, hc1, hc2, hc3, hc4, hc5, hc6, hc7, n12, n45, n67⟩ := hP
  have hD16 := hT.2.1
  refine lv_iconst (v := 0) hx hb d_mo_step_0 (by decide) ?_
  refine lv_istore_n (lv' := [(2, .int 0), (0, .ref mo), (1, .int x)]) hx hb d_mo_step_1 rfl hl (by decide) rfl (fun ls hl => ?_)
  refine lv_iconst (v := nI 0) hx hb d_mo_step_2 (by decide) ?_
  refine lv_istore_n (lv' := [(3, .int (nI 0)), (2, .int 0), (0, .ref mo), (1, .int x)]) hx hb d_mo_step_3 rfl hl (by decide) rfl (fun ls hl => ?_)
  refine g_ind (V := Nat × Int32) (fun (k, b) ls => (k ≤ D ∧ b = stI tf x k) ∧ lv_has ls 4 [(0, .ref mo), (1, .int x), (2, .int b), (3, .int (nI k))]) (fun (k, b) => D - k) ?_ (0, 0) _ ⟨⟨Nat.zero_le _, rfl⟩, lv_sub hl [2, 3, 1, 0] rfl⟩
  intro v ls hI ih4
  obtain ⟨k, b⟩ := v
  obtain ⟨⟨hk, hb1⟩, hl⟩ := hI
  refine lv_iload_n hx hb d_mo_step_4 rfl (lv_at hl 3 rfl) ?_
  refine lv_aload_n hx hb d_mo_step_5 rfl (lv_at hl 0 rfl) ?_
  refine g_get S hE.1 hG hmo rfl in_mo 9 (by decide) tw_500 (fun _ h9 => h9) rfl d_mo_step_6 ?_
  refine g_ge (tgt := 39) hx hb d_mo_step_9 (by decide) (by omega) (by omega) (fun c9 => ?_) (fun c9 => ?_)
  · refine lv_iload_n hx hb d_mo_step_39 rfl (lv_at hl 1 rfl) ?_
    refine lv_iconst (v := 1) hx hb d_mo_step_40 (by decide) ?_
    refine lv_ishl hx hb d_mo_step_41 ?_
    refine lv_iload_n hx hb d_mo_step_42 rfl (lv_at hl 2 rfl) ?_
    refine lv_ior hx hb d_mo_step_43 ?_
    refine lv_iconst (v := 1) hx hb d_mo_step_44 (by decide) ?_
    refine lv_aload_n hx hb d_mo_step_45 rfl (lv_at hl 0 rfl) ?_
    refine g_get S hE.1 hG hmo rfl in_mo 9 (by decide) tw_500 (fun _ h9 => h9) rfl d_mo_step_46 ?_
    refine lv_ishl hx hb d_mo_step_49 ?_
    refine lv_iconst (v := 1) hx hb d_mo_step_50 (by decide) ?_
    refine lv_isub hx hb d_mo_step_51 ?_
    refine lv_iand hx hb d_mo_step_52 ?_
    exact W.iret hx hb hr (fun t9 ht9 hW9 => ⟨_, rfl, (by rw [hb1, show k = D by omega, stI_eq hT]; rfl), ht9⟩) (fun _ h => nomatch h) d_mo_step_53
  · refine lv_aload_n hx hb d_mo_step_12 rfl (lv_at hl 0 rfl) ?_
    refine g_get S hE.1 hG hmo rfl in_mo 10 (by decide) tw_501 (fun _ h9 => h9) rfl d_mo_step_13 ?_
    refine lv_iload_n hx hb d_mo_step_16 rfl (lv_at hl 3 rfl) ?_
    refine g_zald S hE.1 hG hc6 2 rfl (vp_in_nI (by omega) (by omega)) d_mo_step_17 ?_
    refine g_topi (congrArg tf (nI_clamp (show k < 2 ^ 31 by omega))) ?_
    refine lv_if_eq (tgt := 31) hx hb d_mo_step_18 (by decide) (fun c18 => ?_) (fun c18 => ?_)
    · refine lv_iload_n hx hb d_mo_step_31 rfl (lv_at hl 2 rfl) ?_
      refine lv_istore_n (lv' := [(2, .int b), (0, .ref mo), (1, .int x), (3, .int (nI k))]) hx hb d_mo_step_32 rfl hl (by decide) rfl (fun ls hl => ?_)
      refine lv_iinc (v := nI (k + 1)) (lv' := [(3, .int (nI (k + 1))), (2, .int b), (0, .ref mo), (1, .int x)]) hx hb d_mo_step_33 hl (k := 3) rfl (show nI k + 1 = _ from nI_1 k) (by decide) rfl (fun ls hl => ?_)
      refine lv_goto (tgt := 4) hx hb d_mo_step_36 (by decide) ?_
      exact ih4 ((k + 1), b) _ ⟨⟨by omega, by
          simp only [stI, itr_s]; rw [← stI, ← hb1]
          first | rw [if_pos c18] | rw [if_neg c18, e32]⟩, lv_sub hl [2, 3, 1, 0] rfl⟩ (by first | omega | (simp only []; omega))
    · refine lv_iload_n hx hb d_mo_step_21 rfl (lv_at hl 2 rfl) ?_
      refine lv_iload_n hx hb d_mo_step_22 rfl (lv_at hl 1 rfl) ?_
      refine lv_iload_n hx hb d_mo_step_23 rfl (lv_at hl 3 rfl) ?_
      refine lv_ishr hx hb d_mo_step_24 ?_
      refine lv_iconst (v := 1) hx hb d_mo_step_25 (by decide) ?_
      refine lv_iand hx hb d_mo_step_26 ?_
      refine lv_ixor hx hb d_mo_step_27 ?_
      refine lv_goto (tgt := 32) hx hb d_mo_step_28 (by decide) ?_
      refine lv_topi (fun x32 e32 => ?_)
      refine lv_istore_n (lv' := [(2, .int x32), (0, .ref mo), (1, .int x), (3, .int (nI k))]) hx hb d_mo_step_32 rfl hl (by decide) rfl (fun ls hl => ?_)
      refine lv_iinc (v := nI (k + 1)) (lv' := [(3, .int (nI (k + 1))), (2, .int x32), (0, .ref mo), (1, .int x)]) hx hb d_mo_step_33 hl (k := 3) rfl (show nI k + 1 = _ from nI_1 k) (by decide) rfl (fun ls hl => ?_)
      refine lv_goto (tgt := 4) hx hb d_mo_step_36 (by decide) ?_
      exact ih4 ((k + 1), x32) _ ⟨⟨by omega, by
          simp only [stI, itr_s]; rw [← stI, ← hb1]
          first | rw [if_pos c18] | rw [if_neg c18, e32]⟩, lv_sub hl [2, 3, 1, 0] rfl⟩ (by first | omega | (simp only []; omega))
