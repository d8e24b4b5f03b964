set_option maxHeartbeats 4000000 in
set_option maxRecDepth 100000 in
theorem c_in_bitCount (l : Launch) (Z : gZ) (G : gh) (x : Int32) : Met l y_in_bitCount (wd_in_bitCount :: Gall) ({ frames := 0, cells := 0, slots := 0, locals := 0 }) (va_Pc [.int x] (gPure Z G)) (vp_Si (fun r : Int32 => r = bcnt x)) 0 0 (fun _ => False) := by
  refine Met.ofW (cc := b_in_bitCount) (maxL := 1) (ret := (some .int)) (by decide) rfl ?_
  intro p e s m args below meth c s₁ B hml hv
  obtain ⟨rfl, hG, hE⟩ := hv
  have hx := B.exec
  have hb := B.bytes
  have hr := B.returns
  have hlocks := B.notSynchronized
  have S : CallFix p m c b_in_bitCount 1 s _ Gall "java/lang/Integer" := ⟨hx, hb, hml, findClass_of_methodNamed B.named, fun w hw => atoms_spec (ws := wd_in_bitCount :: Gall) B.pre w (List.mem_cons_of_mem _ hw)⟩
  have hl := lv_entry ([.int x]) (n := 1) (Nat.le_of_ble_eq_true rfl)
  rw [lg_entry_eq]
  generalize (lg_sl ([.int x]) ++ List.replicate (1 - (lg_sl ([.int x])).length) Slot.unset).toArray = ls at hl ⊢
  have hl : lv_has ls 1 [(0, .int x)] := hl
  refine lv_iload_n hx hb d_in_bitCount_0 rfl (lv_at hl 0 rfl) ?_
  refine lv_iload_n hx hb d_in_bitCount_1 rfl (lv_at hl 0 rfl) ?_
  refine lv_iconst (v := 1) hx hb d_in_bitCount_2 (by decide) ?_
  refine lv_iushr hx hb d_in_bitCount_3 rfl ?_
  refine lv_ldcw hx hb S.2.2.2.1 (S.2.2.2.2 _ tw_132) d_in_bitCount_4 ?_
  refine lv_iand hx hb d_in_bitCount_7 ?_
  refine lv_isub hx hb d_in_bitCount_8 ?_
  refine lv_topi (fun x9 e9 => ?_)
  refine lv_istore_n (lv' := [(0, .int x9)]) hx hb d_in_bitCount_9 rfl hl (by decide) rfl (fun ls hl => ?_)
  refine lv_iload_n hx hb d_in_bitCount_10 rfl (lv_at hl 0 rfl) ?_
  refine lv_ldcw hx hb S.2.2.2.1 (S.2.2.2.2 _ tw_133) d_in_bitCount_11 ?_
  refine lv_iand hx hb d_in_bitCount_14 ?_
  refine lv_iload_n hx hb d_in_bitCount_15 rfl (lv_at hl 0 rfl) ?_
  refine lv_iconst (v := 2) hx hb d_in_bitCount_16 (by decide) ?_
  refine lv_iushr hx hb d_in_bitCount_17 rfl ?_
  refine lv_ldcw hx hb S.2.2.2.1 (S.2.2.2.2 _ tw_133) d_in_bitCount_18 ?_
  refine lv_iand hx hb d_in_bitCount_21 ?_
  refine lv_iadd hx hb d_in_bitCount_22 ?_
  refine lv_topi (fun x23 e23 => ?_)
  refine lv_istore_n (lv' := [(0, .int x23)]) hx hb d_in_bitCount_23 rfl hl (by decide) rfl (fun ls hl => ?_)
  refine lv_iload_n hx hb d_in_bitCount_24 rfl (lv_at hl 0 rfl) ?_
  refine lv_iload_n hx hb d_in_bitCount_25 rfl (lv_at hl 0 rfl) ?_
  refine lv_iconst (v := 4) hx hb d_in_bitCount_26 (by decide) ?_
  refine lv_iushr hx hb d_in_bitCount_27 rfl ?_
  refine lv_iadd hx hb d_in_bitCount_28 ?_
  refine lv_ldcw hx hb S.2.2.2.1 (S.2.2.2.2 _ tw_134) d_in_bitCount_29 ?_
  refine lv_iand hx hb d_in_bitCount_32 ?_
  refine lv_topi (fun x33 e33 => ?_)
  refine lv_istore_n (lv' := [(0, .int x33)]) hx hb d_in_bitCount_33 rfl hl (by decide) rfl (fun ls hl => ?_)
  refine lv_iload_n hx hb d_in_bitCount_34 rfl (lv_at hl 0 rfl) ?_
  refine lv_iload_n hx hb d_in_bitCount_35 rfl (lv_at hl 0 rfl) ?_
  refine lv_bipush (v := 8) hx hb d_in_bitCount_36 (by decide) ?_
  refine lv_iushr hx hb d_in_bitCount_38 rfl ?_
  refine lv_iadd hx hb d_in_bitCount_39 ?_
  refine lv_topi (fun x40 e40 => ?_)
  refine lv_istore_n (lv' := [(0, .int x40)]) hx hb d_in_bitCount_40 rfl hl (by decide) rfl (fun ls hl => ?_)
  refine lv_iload_n hx hb d_in_bitCount_41 rfl (lv_at hl 0 rfl) ?_
  refine lv_iload_n hx hb d_in_bitCount_42 rfl (lv_at hl 0 rfl) ?_
  refine lv_bipush (v := 16) hx hb d_in_bitCount_43 (by decide) ?_
  refine lv_iushr hx hb d_in_bitCount_45 rfl ?_
  refine lv_iadd hx hb d_in_bitCount_46 ?_
  refine lv_topi (fun x47 e47 => ?_)
  refine lv_istore_n (lv' := [(0, .int x47)]) hx hb d_in_bitCount_47 rfl hl (by decide) rfl (fun ls hl => ?_)
  refine lv_iload_n hx hb d_in_bitCount_48 rfl (lv_at hl 0 rfl) ?_
  refine lv_bipush (v := 63) hx hb d_in_bitCount_49 (by decide) ?_
  refine lv_iand hx hb d_in_bitCount_51 ?_
  exact W.iret hx hb hr (fun t9 ht9 hW9 => ⟨_, rfl, (by subst_vars; rfl), ht9⟩) (fun _ h => nomatch h) d_in_bitCount_52

set_option maxHeartbeats 4000000 in
set_option maxRecDepth 100000 in
theorem c_ma_step (l : Launch) (Z : gZ) (G : gh) (h : Nat) {sh ro : Nat} {stg tp : Int32} (hm : G h = some (.inr (2, [.ref sh, .ref ro, .int stg, .int tp]))) (x : Int32) : Met l y_ma_step (wd_ma_step :: Gall) ({ frames := 1, cells := 0, slots := 0, locals := 20 }) (va_Pc [.ref h, .int x] (gPure Z G)) (vp_Si (fun r : Int32 => r = stepC stg tp x)) 0 0 (fun _ => False) := by
  refine Met.ofW (cc := b_ma_step) (maxL := 3) (ret := (some .int)) (by decide) rfl ?_
  intro p e s m args below meth c s₁ B hml hv
  obtain ⟨rfl, hG, hE⟩ := hv
  have hx := B.exec
  have hb := B.bytes
  have hr := B.returns
  have hlocks := B.notSynchronized
  have S : CallFix p m c b_ma_step 3 s _ Gall "PackSeeds$Machine" := ⟨hx, hb, hml, findClass_of_methodNamed B.named, fun w hw => atoms_spec (ws := wd_ma_step :: Gall) B.pre w (List.mem_cons_of_mem _ hw)⟩
  have hl := lv_entry ([.ref h, .int x]) (n := 3) (Nat.le_of_ble_eq_true rfl)
  rw [lg_entry_eq]
  generalize (lg_sl ([.ref h, .int x]) ++ List.replicate (3 - (lg_sl ([.ref h, .int x])).length) Slot.unset).toArray = ls at hl ⊢
  have hl : lv_has ls 3 [(0, .ref h), (1, .int x)] := hl
  refine lv_iload_n hx hb d_ma_step_0 rfl (lv_at hl 1 rfl) ?_
  refine lv_aload_n hx hb d_ma_step_1 rfl (lv_at hl 0 rfl) ?_
  refine g_get S hE.1 hG hm rfl in_ma 3 (by decide) tw_55 (fun _ h9 => h9) rfl d_ma_step_2 ?_
  refine lv_iand hx hb d_ma_step_5 ?_
  refine g_reti (g_runS (As := [.int (x &&& tp)]) (rest := []) S lk_ma_26 k_in_bitCount (c_in_bitCount l Z G (x &&& tp)) ⟨rfl, rfl⟩ ⟨Nat.le_of_ble_eq_true rfl, Nat.le_of_ble_eq_true rfl⟩ (gPreS hG hE) rfl hl.1 rfl (Nat.le_of_ble_eq_true rfl) d_ma_step_6 ⟨Nat.le_of_ble_eq_true rfl, Nat.le_of_ble_eq_true rfl⟩) (fun r6 h6 => ?_)
  refine lv_iconst (v := 1) hx hb d_ma_step_9 (by decide) ?_
  refine lv_iand hx hb d_ma_step_10 ?_
  refine lv_topi (fun x11 e11 => ?_)
  refine lv_istore_n (lv' := [(2, .int x11), (0, .ref h), (1, .int x)]) hx hb d_ma_step_11 rfl hl (by decide) rfl (fun ls hl => ?_)
  refine lv_iload_n hx hb d_ma_step_12 rfl (lv_at hl 2 rfl) ?_
  refine lv_iconst (v := 1) hx hb d_ma_step_13 (by decide) ?_
  refine lv_ishl hx hb d_ma_step_14 ?_
  refine lv_iload_n hx hb d_ma_step_15 rfl (lv_at hl 0 rfl) ?_
  refine lv_ior hx hb d_ma_step_16 ?_
  refine lv_iconst (v := 1) hx hb d_ma_step_17 (by decide) ?_
  refine lv_aload_n hx hb d_ma_step_18 rfl (lv_at hl 1 rfl) ?_
  refine g_get S hE.1 hG hm rfl in_ma 2 (by decide) tw_53 (fun _ h9 => h9) rfl d_ma_step_19 ?_
  refine lv_ishl hx hb d_ma_step_22 ?_
  refine lv_iconst (v := 1) hx hb d_ma_step_23 (by decide) ?_
  refine lv_isub hx hb d_ma_step_24 ?_
  refine lv_iand hx hb d_ma_step_25 ?_
  exact W.iret hx hb hr (fun t9 ht9 hW9 => ⟨_, rfl, (by subst_vars; rfl), ht9⟩) (fun _ h => nomatch h) d_ma_step_26

set_option maxHeartbeats 4000000 in
set_option maxRecDepth 100000 in
theorem c_ma_stageAround (l : Launch) (Z : gZ) (G : gh) (h : Nat) {sh ro : Nat} {stg tp : Int32} (hm : G h = some (.inr (2, [.ref sh, .ref ro, .int stg, .int tp]))) (x : Int32) : Met l y_ma_stageAround (wd_ma_stageAround :: Gall) ({ frames := 0, cells := 0, slots := 0, locals := 0 }) (va_Pc [.ref h, .int x] (gPure Z G)) (vp_Si (fun r : Int32 => r = sarC stg x)) 0 0 (fun _ => False) := by
  refine Met.ofW (cc := b_ma_stageAround) (maxL := 2) (ret := (some .int)) (by decide) rfl ?_
  intro p e s m args below meth c s₁ B hml hv
  obtain ⟨rfl, hG, hE⟩ := hv
  have hx := B.exec
  have hb := B.bytes
  have hr := B.returns
  have hlocks := B.notSynchronized
  have S : CallFix p m c b_ma_stageAround 2 s _ Gall "PackSeeds$Machine" := ⟨hx, hb, hml, findClass_of_methodNamed B.named, fun w hw => atoms_spec (ws := wd_ma_stageAround :: Gall) B.pre w (List.mem_cons_of_mem _ hw)⟩
  have hl := lv_entry ([.ref h, .int x]) (n := 2) (Nat.le_of_ble_eq_true rfl)
  rw [lg_entry_eq]
  generalize (lg_sl ([.ref h, .int x]) ++ List.replicate (2 - (lg_sl ([.ref h, .int x])).length) Slot.unset).toArray = ls at hl ⊢
  have hl : lv_has ls 2 [(0, .ref h), (1, .int x)] := hl
  refine lv_aload_n hx hb d_ma_stageAround_0 rfl (lv_at hl 0 rfl) ?_
  refine g_get S hE.1 hG hm rfl in_ma 2 (by decide) tw_53 (fun _ h9 => h9) rfl d_ma_stageAround_1 ?_
  refine lv_iconst (v := 1) hx hb d_ma_stageAround_4 (by decide) ?_
  refine lv_icmp_ge (tgt := 12) hx hb d_ma_stageAround_5 (by decide) (fun c5 => ?_) (fun c5 => ?_)
  · refine lv_iload_n hx hb d_ma_stageAround_12 rfl (lv_at hl 1 rfl) ?_
    refine lv_aload_n hx hb d_ma_stageAround_13 rfl (lv_at hl 0 rfl) ?_
    refine g_get S hE.1 hG hm rfl in_ma 2 (by decide) tw_53 (fun _ h9 => h9) rfl d_ma_stageAround_14 ?_
    refine lv_irem hx hb d_ma_stageAround_17 (by intro h0; rw [h0] at c5; exact absurd c5 (by decide)) ?_
    exact W.iret hx hb hr (fun t9 ht9 hW9 => ⟨_, rfl, (by simp [sarC, c5]), ht9⟩) (fun _ h => nomatch h) d_ma_stageAround_18
  · refine lv_iconst (v := 0) hx hb d_ma_stageAround_8 (by decide) ?_
    refine lv_goto (tgt := 18) hx hb d_ma_stageAround_9 (by decide) ?_
    exact W.iret hx hb hr (fun t9 ht9 hW9 => ⟨_, rfl, (by simp [sarC, c5]), ht9⟩) (fun _ h => nomatch h) d_ma_stageAround_18

set_option maxHeartbeats 4000000 in
set_option maxRecDepth 100000 in
theorem c_ps_place (l : Launch) (Z : gZ) (G : gh) (x y : Int32) : Met l y_ps_place (wd_ps_place :: Gall) ({ frames := 0, cells := 0, slots := 0, locals := 0 }) (va_Pc [.int x, .int y] (gPure Z G)) (vp_Si (fun r : Int32 => r = plC x y)) 0 0 (fun _ => False) := by
  refine Met.ofW (cc := b_ps_place) (maxL := 2) (ret := (some .int)) (by decide) rfl ?_
  intro p e s m args below meth c s₁ B hml hv
  obtain ⟨rfl, hG, hE⟩ := hv
  have hx := B.exec
  have hb := B.bytes
  have hr := B.returns
  have hlocks := B.notSynchronized
  have S : CallFix p m c b_ps_place 2 s _ Gall "PackSeeds" := ⟨hx, hb, hml, findClass_of_methodNamed B.named, fun w hw => atoms_spec (ws := wd_ps_place :: Gall) B.pre w (List.mem_cons_of_mem _ hw)⟩
  have hl := lv_entry ([.int x, .int y]) (n := 2) (Nat.le_of_ble_eq_true rfl)
  rw [lg_entry_eq]
  generalize (lg_sl ([.int x, .int y]) ++ List.replicate (2 - (lg_sl ([.int x, .int y])).length) Slot.unset).toArray = ls at hl ⊢
  have hl : lv_has ls 2 [(0, .int x), (1, .int y)] := hl
  refine lv_iconst (v := 1) hx hb d_ps_place_0 (by decide) ?_
  refine lv_iload_n hx hb d_ps_place_1 rfl (lv_at hl 0 rfl) ?_
  refine lv_bipush (v := 8) hx hb d_ps_place_2 (by decide) ?_
  refine lv_imul hx hb d_ps_place_4 ?_
  refine lv_iload_n hx hb d_ps_place_5 rfl (lv_at hl 1 rfl) ?_
  refine lv_iadd hx hb d_ps_place_6 ?_
  refine lv_ishl hx hb d_ps_place_7 ?_
  exact W.iret hx hb hr (fun t9 ht9 hW9 => ⟨_, rfl, rfl, ht9⟩) (fun _ h => nomatch h) d_ps_place_8

set_option maxHeartbeats 4000000 in
set_option maxRecDepth 100000 in
theorem c_ma_row (l : Launch) (Z : gZ) (G : gh) (x y : Int32) : Met l y_ma_row (wd_ma_row :: Gall) ({ frames := 0, cells := 0, slots := 0, locals := 0 }) (va_Pc [.int x, .int y] (gPure Z G)) (vp_Sl (fun r : Int64 => r = rowC x y)) 0 0 (fun _ => False) := by
  refine Met.ofW (cc := b_ma_row) (maxL := 2) (ret := (some .long)) (by decide) rfl ?_
  intro p e s m args below meth c s₁ B hml hv
  obtain ⟨rfl, hG, hE⟩ := hv
  have hx := B.exec
  have hb := B.bytes
  have hr := B.returns
  have hlocks := B.notSynchronized
  have S : CallFix p m c b_ma_row 2 s _ Gall "PackSeeds$Machine" := ⟨hx, hb, hml, findClass_of_methodNamed B.named, fun w hw => atoms_spec (ws := wd_ma_row :: Gall) B.pre w (List.mem_cons_of_mem _ hw)⟩
  have hl := lv_entry ([.int x, .int y]) (n := 2) (Nat.le_of_ble_eq_true rfl)
  rw [lg_entry_eq]
  generalize (lg_sl ([.int x, .int y]) ++ List.replicate (2 - (lg_sl ([.int x, .int y])).length) Slot.unset).toArray = ls at hl ⊢
  have hl : lv_has ls 2 [(0, .int x), (1, .int y)] := hl
  refine lv_iload_n hx hb d_ma_row_0 rfl (lv_at hl 0 rfl) ?_
  refine lv_i2l hx hb d_ma_row_1 rfl ?_
  refine lv_bipush (v := 16) hx hb d_ma_row_2 (by decide) ?_
  refine lv_lshl hx hb d_ma_row_4 rfl ?_
  refine lv_iload_n hx hb d_ma_row_5 rfl (lv_at hl 1 rfl) ?_
  refine lv_i2l hx hb d_ma_row_6 rfl ?_
  refine lv_lor hx hb d_ma_row_7 ?_
  exact W.lret hx hb hr (fun t9 ht9 hW9 => ⟨_, rfl, rfl, ht9⟩) (fun _ h => nomatch h) d_ma_row_8

set_option maxHeartbeats 4000000 in
set_option maxRecDepth 100000 in
theorem c_ma_cellsOf (l : Launch) (Z : gZ) (G : gh) (x : Int64) : Met l y_ma_cellsOf (wd_ma_cellsOf :: Gall) ({ frames := 0, cells := 0, slots := 0, locals := 0 }) (va_Pc [.long x] (gPure Z G)) (vp_Sl (fun r : Int64 => r = celC x)) 0 0 (fun _ => False) := by
  refine Met.ofW (cc := b_ma_cellsOf) (maxL := 2) (ret := (some .long)) (by decide) rfl ?_
  intro p e s m args below meth c s₁ B hml hv
  obtain ⟨rfl, hG, hE⟩ := hv
  have hx := B.exec
  have hb := B.bytes
  have hr := B.returns
  have hlocks := B.notSynchronized
  have S : CallFix p m c b_ma_cellsOf 2 s _ Gall "PackSeeds$Machine" := ⟨hx, hb, hml, findClass_of_methodNamed B.named, fun w hw => atoms_spec (ws := wd_ma_cellsOf :: Gall) B.pre w (List.mem_cons_of_mem _ hw)⟩
  have hl := lv_entry ([.long x]) (n := 2) (Nat.le_of_ble_eq_true rfl)
  rw [lg_entry_eq]
  generalize (lg_sl ([.long x]) ++ List.replicate (2 - (lg_sl ([.long x])).length) Slot.unset).toArray = ls at hl ⊢
  have hl : lv_has ls 2 [(0, .long x)] := hl
  refine lv_lload_n hx hb d_ma_cellsOf_0 rfl (lv_at hl 0 rfl) ?_
  refine lv_bipush (v := 16) hx hb d_ma_cellsOf_1 (by decide) ?_
  refine lv_lshr hx hb d_ma_cellsOf_3 rfl ?_
  exact W.lret hx hb hr (fun t9 ht9 hW9 => ⟨_, rfl, rfl, ht9⟩) (fun _ h => nomatch h) d_ma_cellsOf_4

set_option maxHeartbeats 4000000 in
set_option maxRecDepth 100000 in
theorem c_ma_isTapped (l : Launch) (Z : gZ) (G : gh) (h : Nat) {sh ro : Nat} {stg tp : Int32} (hm : G h = some (.inr (2, [.ref sh, .ref ro, .int stg, .int tp]))) (x : Int32) : Met l y_ma_isTapped (wd_ma_isTapped :: Gall) ({ frames := 0, cells := 0, slots := 0, locals := 0 }) (va_Pc [.ref h, .int x] (gPure Z G)) (vp_Si (fun r : Int32 => r = tapC tp x)) 0 0 (fun _ => False) := by
  refine Met.ofW (cc := b_ma_isTapped) (maxL := 2) (ret := (some .boolean)) (by decide) rfl ?_
  intro p e s m args below meth c s₁ B hml hv
  obtain ⟨rfl, hG, hE⟩ := hv
  have hx := B.exec
  have hb := B.bytes
  have hr := B.returns
  have hlocks := B.notSynchronized
  have S : CallFix p m c b_ma_isTapped 2 s _ Gall "PackSeeds$Machine" := ⟨hx, hb, hml, findClass_of_methodNamed B.named, fun w hw => atoms_spec (ws := wd_ma_isTapped :: Gall) B.pre w (List.mem_cons_of_mem _ hw)⟩
  have hl := lv_entry ([.ref h, .int x]) (n := 2) (Nat.le_of_ble_eq_true rfl)
  rw [lg_entry_eq]
  generalize (lg_sl ([.ref h, .int x]) ++ List.replicate (2 - (lg_sl ([.ref h, .int x])).length) Slot.unset).toArray = ls at hl ⊢
  have hl : lv_has ls 2 [(0, .ref h), (1, .int x)] := hl
  refine lv_aload_n hx hb d_ma_isTapped_0 rfl (lv_at hl 0 rfl) ?_
  refine g_get S hE.1 hG hm rfl in_ma 3 (by decide) tw_55 (fun _ h9 => h9) rfl d_ma_isTapped_1 ?_
  refine lv_iconst (v := 1) hx hb d_ma_isTapped_4 (by decide) ?_
  refine lv_iload_n hx hb d_ma_isTapped_5 rfl (lv_at hl 1 rfl) ?_
  refine lv_ishl hx hb d_ma_isTapped_6 ?_
  refine lv_iand hx hb d_ma_isTapped_7 ?_
  refine lv_if_eq (tgt := 15) hx hb d_ma_isTapped_8 (by decide) (fun c8 => ?_) (fun c8 => ?_)
  · refine lv_iconst (v := 0) hx hb d_ma_isTapped_15 (by decide) ?_
    exact W.zret hx hb hr rfl (fun t9 ht9 hW9 => ⟨_, rfl, (by simp [tapC, c8]), ht9⟩) (fun _ h => nomatch h) d_ma_isTapped_16
  · refine lv_iconst (v := 1) hx hb d_ma_isTapped_11 (by decide) ?_
    refine lv_goto (tgt := 16) hx hb d_ma_isTapped_12 (by decide) ?_
    exact W.zret hx hb hr rfl (fun t9 ht9 hW9 => ⟨_, rfl, (by simp [tapC, c8]), ht9⟩) (fun _ h => nomatch h) d_ma_isTapped_16

set_option maxHeartbeats 4000000 in
set_option maxRecDepth 100000 in
theorem c_pt_careAt (l : Launch) (Z : gZ) (G : gh) (h : Nat) {ca va mk fa sd gn : Int32} (hp : G h = some (.inr (3, [.int ca, .int va, .int mk, .int fa, .int sd, .int gn]))) (x : Int32) : Met l y_pt_careAt (wd_pt_careAt :: Gall) ({ frames := 0, cells := 0, slots := 0, locals := 0 }) (va_Pc [.ref h, .int x] (gPure Z G)) (vp_Si (fun r : Int32 => r = carC ca va x)) 0 0 (fun _ => False) := by
  refine Met.ofW (cc := b_pt_careAt) (maxL := 2) (ret := (some .int)) (by decide) rfl ?_
  intro p e s m args below meth c s₁ B hml hv
  obtain ⟨rfl, hG, hE⟩ := hv
  have hx := B.exec
  have hb := B.bytes
  have hr := B.returns
  have hlocks := B.notSynchronized
  have S : CallFix p m c b_pt_careAt 2 s _ Gall "PackSeeds$Pattern" := ⟨hx, hb, hml, findClass_of_methodNamed B.named, fun w hw => atoms_spec (ws := wd_pt_careAt :: Gall) B.pre w (List.mem_cons_of_mem _ hw)⟩
  have hl := lv_entry ([.ref h, .int x]) (n := 2) (Nat.le_of_ble_eq_true rfl)
  rw [lg_entry_eq]
  generalize (lg_sl ([.ref h, .int x]) ++ List.replicate (2 - (lg_sl ([.ref h, .int x])).length) Slot.unset).toArray = ls at hl ⊢
  have hl : lv_has ls 2 [(0, .ref h), (1, .int x)] := hl
  refine lv_aload_n hx hb d_pt_careAt_0 rfl (lv_at hl 0 rfl) ?_
  refine g_get S hE.1 hG hp rfl in_pt 0 (by decide) tw_218 (fun _ h9 => h9) rfl d_pt_careAt_1 ?_
  refine lv_iload_n hx hb d_pt_careAt_4 rfl (lv_at hl 1 rfl) ?_
  refine lv_iand hx hb d_pt_careAt_5 ?_
  refine lv_if_ne (tgt := 11) hx hb d_pt_careAt_6 (by decide) (fun c6 => ?_) (fun c6 => ?_)
  · refine lv_aload_n hx hb d_pt_careAt_11 rfl (lv_at hl 0 rfl) ?_
    refine g_get S hE.1 hG hp rfl in_pt 1 (by decide) tw_220 (fun _ h9 => h9) rfl d_pt_careAt_12 ?_
    refine lv_iload_n hx hb d_pt_careAt_15 rfl (lv_at hl 1 rfl) ?_
    refine lv_iand hx hb d_pt_careAt_16 ?_
    refine lv_if_eq (tgt := 24) hx hb d_pt_careAt_17 (by decide) (fun c17 => ?_) (fun c17 => ?_)
    · refine lv_iconst (v := 0) hx hb d_pt_careAt_24 (by decide) ?_
      exact W.iret hx hb hr (fun t9 ht9 hW9 => ⟨_, rfl, (by simp_all [carC]), ht9⟩) (fun _ h => nomatch h) d_pt_careAt_25
    · refine lv_iconst (v := 1) hx hb d_pt_careAt_20 (by decide) ?_
      refine lv_goto (tgt := 25) hx hb d_pt_careAt_21 (by decide) ?_
      exact W.iret hx hb hr (fun t9 ht9 hW9 => ⟨_, rfl, (by simp_all [carC]), ht9⟩) (fun _ h => nomatch h) d_pt_careAt_25
  · refine lv_iconst (v := (-1)) hx hb d_pt_careAt_9 (by decide) ?_
    exact W.iret hx hb hr (fun t9 ht9 hW9 => ⟨_, rfl, (by simp_all [carC]), ht9⟩) (fun _ h => nomatch h) d_pt_careAt_10

set_option maxHeartbeats 4000000 in
set_option maxRecDepth 100000 in
theorem c_pt_goesWith (l : Launch) (Z : gZ) (G : gh) (h : Nat) {ca va mk fa sd gn : Int32} (hp : G h = some (.inr (3, [.int ca, .int va, .int mk, .int fa, .int sd, .int gn]))) (h2 : Nat) {ca2 va2 mk2 fa2 sd2 gn2 : Int32} (hp2 : G h2 = some (.inr (3, [.int ca2, .int va2, .int mk2, .int fa2, .int sd2, .int gn2]))) : Met l y_pt_goesWith (wd_pt_goesWith :: Gall) ({ frames := 0, cells := 0, slots := 0, locals := 0 }) (va_Pc [.ref h, .ref h2] (gPure Z G)) (vp_Si (fun r : Int32 => r = gowC ca va ca2 va2)) 0 0 (fun _ => False) := by
  refine Met.ofW (cc := b_pt_goesWith) (maxL := 2) (ret := (some .boolean)) (by decide) rfl ?_
  intro p e s m args below meth c s₁ B hml hv
  obtain ⟨rfl, hG, hE⟩ := hv
  have hx := B.exec
  have hb := B.bytes
  have hr := B.returns
  have hlocks := B.notSynchronized
  have S : CallFix p m c b_pt_goesWith 2 s _ Gall "PackSeeds$Pattern" := ⟨hx, hb, hml, findClass_of_methodNamed B.named, fun w hw => atoms_spec (ws := wd_pt_goesWith :: Gall) B.pre w (List.mem_cons_of_mem _ hw)⟩
  have hl := lv_entry ([.ref h, .ref h2]) (n := 2) (Nat.le_of_ble_eq_true rfl)
  rw [lg_entry_eq]
  generalize (lg_sl ([.ref h, .ref h2]) ++ List.replicate (2 - (lg_sl ([.ref h, .ref h2])).length) Slot.unset).toArray = ls at hl ⊢
  have hl : lv_has ls 2 [(0, .ref h), (1, .ref h2)] := hl
  refine lv_aload_n hx hb d_pt_goesWith_0 rfl (lv_at hl 0 rfl) ?_
  refine g_get S hE.1 hG hp rfl in_pt 0 (by decide) tw_218 (fun _ h9 => h9) rfl d_pt_goesWith_1 ?_
  refine lv_aload_n hx hb d_pt_goesWith_4 rfl (lv_at hl 1 rfl) ?_
  refine g_get S hE.1 hG hp2 rfl in_pt 0 (by decide) tw_218 (fun _ h9 => h9) rfl d_pt_goesWith_5 ?_
  refine lv_iand hx hb d_pt_goesWith_8 ?_
  refine lv_aload_n hx hb d_pt_goesWith_9 rfl (lv_at hl 0 rfl) ?_
  refine g_get S hE.1 hG hp rfl in_pt 1 (by decide) tw_220 (fun _ h9 => h9) rfl d_pt_goesWith_10 ?_
  refine lv_aload_n hx hb d_pt_goesWith_13 rfl (lv_at hl 1 rfl) ?_
  refine g_get S hE.1 hG hp2 rfl in_pt 1 (by decide) tw_220 (fun _ h9 => h9) rfl d_pt_goesWith_14 ?_
  refine lv_ixor hx hb d_pt_goesWith_17 ?_
  refine lv_iand hx hb d_pt_goesWith_18 ?_
  refine lv_if_ne (tgt := 26) hx hb d_pt_goesWith_19 (by decide) (fun c19 => ?_) (fun c19 => ?_)
  · refine lv_iconst (v := 0) hx hb d_pt_goesWith_26 (by decide) ?_
    exact W.zret hx hb hr rfl (fun t9 ht9 hW9 => ⟨_, rfl, (by simp_all [gowC]), ht9⟩) (fun _ h => nomatch h) d_pt_goesWith_27
  · refine lv_iconst (v := 1) hx hb d_pt_goesWith_22 (by decide) ?_
    refine lv_goto (tgt := 27) hx hb d_pt_goesWith_23 (by decide) ?_
    exact W.zret hx hb hr rfl (fun t9 ht9 hW9 => ⟨_, rfl, (by simp_all [gowC]), ht9⟩) (fun _ h => nomatch h) d_pt_goesWith_27
