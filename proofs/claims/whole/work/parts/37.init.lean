set_option maxHeartbeats 600000 in
set_option maxRecDepth 100000 in
theorem c_sh_init (l : Launch) (Z : gZ) (G : gh) (sz : Nat) (h : Nat) (hp : G h = some (.inr (1, [.int 0, .int 0]))) (a b : Int32) : Met l y_sh_init (wd_sh_init :: Gall) ({ frames := 1, cells := 0, slots := 0, locals := 23 }) (va_Pc [.ref h, .int a, .int b] (gPw Z G sz)) (va_Qv (fun (G9 : gh) => G9 = gup G h (.inr (1, [.int (cla 4 a), .int (cla 8 b)]))) (gW Z G sz) (gA G sz)) 0 0 (gA G sz) := by
  refine Met.ofW (cc := b_sh_init) (maxL := 3) (ret := none) (by decide) rfl ?_
  intro p e s m args below meth c s₁ B hml hv
  obtain ⟨rfl, hsz, hG, hE⟩ := hv
  subst hsz
  have hx := B.exec
  have hb := B.bytes
  have hr := B.returns
  have hlocks := B.notSynchronized
  have hin : meth.name = "<init>" := (name_of_methodNamed B.named B.method).1
  have S : CallFix p m c b_sh_init 3 s _ Gall "PackSeeds$Shape" := ⟨hx, hb, hml, findClass_of_methodNamed B.named, fun w hw => atoms_spec (ws := wd_sh_init :: Gall) B.pre w (List.mem_cons_of_mem _ hw)⟩
  have hG : gS (gA G s.heap.size) s.heap Z.1 cls G s.heap [] := gS.start hG
  have hl := lv_entry ([.ref h, .int a, .int b]) (n := 3) (Nat.le_of_ble_eq_true rfl)
  rw [lg_entry_eq]
  generalize (lg_sl ([.ref h, .int a, .int b]) ++ List.replicate (3 - (lg_sl ([.ref h, .int a, .int b])).length) Slot.unset).toArray = ls at hl ⊢
  have hl : lv_has ls 3 [(0, .ref h), (1, .int a), (2, .int b)] := hl
  refine lv_aload_n hx hb d_sh_init_0 rfl (lv_at hl 0 rfl) ?_
  refine W.objInit hx hb S.2.2.2.1 (S.2.2.2.2 _ tw_27) (S.2.2.2.2 _ tw_20) (S.2.2.2.2 _ tw_21) rfl (by rw [hml]; exact hl.1) rfl d_sh_init_1 (Nat.le_of_ble_eq_true rfl) (Nat.le_of_ble_eq_true rfl) ?_
  refine W.eq (g2 := F0 m 4 ls []) rfl ?_
  refine lv_aload_n hx hb d_sh_init_4 rfl (lv_at hl 0 rfl) ?_
  refine lv_iconst (v := 4) hx hb d_sh_init_5 (by decide) ?_
  refine lv_iconst (v := 1) hx hb d_sh_init_6 (by decide) ?_
  refine lv_iload_n hx hb d_sh_init_7 rfl (lv_at hl 1 rfl) ?_
  refine va_mmax hx hb (hml.trans hl.1.symm) S.2.2.2.1 (S.2.2.2.2 _ tw_28) (S.2.2.2.2 _ tw_29) (S.2.2.2.2 _ tw_3) (S.2.2.2.2 _ tw_30) (Nat.le_of_ble_eq_true rfl) (Nat.le_of_ble_eq_true rfl) (Nat.le_of_ble_eq_true rfl) (Nat.le_of_ble_eq_true rfl) d_sh_init_8 ?_
  refine va_mmin hx hb (hml.trans hl.1.symm) S.2.2.2.1 (S.2.2.2.2 _ tw_31) (S.2.2.2.2 _ tw_32) (S.2.2.2.2 _ tw_3) (S.2.2.2.2 _ tw_33) (Nat.le_of_ble_eq_true rfl) (Nat.le_of_ble_eq_true rfl) (Nat.le_of_ble_eq_true rfl) (Nat.le_of_ble_eq_true rfl) d_sh_init_11 ?_
  refine g_topi (y := cla 4 a) rfl ?_
  refine g_putF S hE.1 hG hp rfl in_sh ty_sh tyok_sh nm_sh 0 (by decide) tw_34 (fun _ h9 => h9) rfl hin rfl (ty := .int) (by decide +kernel) rfl rfl (Nat.le_of_ble_eq_true rfl) d_sh_init_14 (fun H locs hG => ?_)
  have hG : gS (gA G s.heap.size) s.heap Z.1 cls (gup G h (.inr (1, [.int (cla 4 a), .int 0]))) H locs := hG
  generalize eG14 : gup G h (.inr (1, [.int (cla 4 a), .int 0])) = G14 at hG
  have f14 : G14 h = some (.inr (1, [.int (cla 4 a), .int 0])) := by rw [← eG14]; exact gup_self _ _ _
  refine lv_aload_n hx hb d_sh_init_17 rfl (lv_at hl 0 rfl) ?_
  refine lv_bipush (v := 8) hx hb d_sh_init_18 (by decide) ?_
  refine lv_iconst (v := 1) hx hb d_sh_init_20 (by decide) ?_
  refine lv_iload_n hx hb d_sh_init_21 rfl (lv_at hl 2 rfl) ?_
  refine va_mmax hx hb (hml.trans hl.1.symm) S.2.2.2.1 (S.2.2.2.2 _ tw_28) (S.2.2.2.2 _ tw_29) (S.2.2.2.2 _ tw_3) (S.2.2.2.2 _ tw_30) (Nat.le_of_ble_eq_true rfl) (Nat.le_of_ble_eq_true rfl) (Nat.le_of_ble_eq_true rfl) (Nat.le_of_ble_eq_true rfl) d_sh_init_22 ?_
  refine va_mmin hx hb (hml.trans hl.1.symm) S.2.2.2.1 (S.2.2.2.2 _ tw_31) (S.2.2.2.2 _ tw_32) (S.2.2.2.2 _ tw_3) (S.2.2.2.2 _ tw_33) (Nat.le_of_ble_eq_true rfl) (Nat.le_of_ble_eq_true rfl) (Nat.le_of_ble_eq_true rfl) (Nat.le_of_ble_eq_true rfl) d_sh_init_25 ?_
  refine g_topi (y := cla 8 b) rfl ?_
  refine g_putF S hE.1 hG f14 rfl in_sh ty_sh tyok_sh nm_sh 1 (by decide) tw_37 (fun _ h9 => h9) rfl hin rfl (ty := .int) (by decide +kernel) rfl rfl (Nat.le_of_ble_eq_true rfl) d_sh_init_28 (fun H locs hG => ?_)
  have hG : gS (gA G s.heap.size) s.heap Z.1 cls (gup G14 h (.inr (1, [.int (cla 4 a), .int (cla 8 b)]))) H locs := hG
  generalize eG28 : gup G14 h (.inr (1, [.int (cla 4 a), .int (cla 8 b)])) = G28 at hG
  have f28 : G28 h = some (.inr (1, [.int (cla 4 a), .int (cla 8 b)])) := by rw [← eG28]; exact gup_self _ _ _
  refine W.widen (k := 0) (n := 0) (Nat.le_of_ble_eq_true rfl) (Nat.le_of_ble_eq_true rfl) ?_
  exact (W.vret hx hb hr (fun t9 ht9 hW9 => ⟨⟨_, rfl, (by rw [← eG28, ← eG14]; simp only [gup_gup]), by rw [ht9]; exact hG.1, hG.2.1⟩, hG.2.2.1.F ht9⟩) hG.2.2.1.2.2 d_sh_init_31)

set_option maxHeartbeats 600000 in
set_option maxRecDepth 100000 in
theorem c_ma_init (l : Launch) (Z : gZ) (G : gh) (sz : Nat) (h sh : Nat) (hp : G h = some (.inr (2, [.null, .null, .int 0, .int 0]))) : Met l y_ma_init (wd_ma_init :: Gall) ({ frames := 1, cells := 1, slots := 48, locals := 20 }) (va_Pc [.ref h, .ref sh] (gPw Z G sz)) (va_Qv (fun (G9 : gh) => gKe (fun q => q = h) G G9 ∧ ∃ q, G q = none ∧ G9 q = some (.inl (Z.2 0, 48, .inr (.inl (fun _ => 0)))) ∧ G9 h = some (.inr (2, [.ref sh, .ref q, .int 8, .int 128]))) (gW Z G sz) (gA G sz)) 1 48 (gA G sz) := by
  refine Met.ofW (cc := b_ma_init) (maxL := 2) (ret := none) (by decide) rfl ?_
  intro p e s m args below meth c s₁ B hml hv
  obtain ⟨rfl, hsz, hG, hE⟩ := hv
  subst hsz
  have hx := B.exec
  have hb := B.bytes
  have hr := B.returns
  have hlocks := B.notSynchronized
  have hin : meth.name = "<init>" := (name_of_methodNamed B.named B.method).1
  have S : CallFix p m c b_ma_init 2 s _ Gall "PackSeeds$Machine" := ⟨hx, hb, hml, findClass_of_methodNamed B.named, fun w hw => atoms_spec (ws := wd_ma_init :: Gall) B.pre w (List.mem_cons_of_mem _ hw)⟩
  have hG : gS (gA G s.heap.size) s.heap Z.1 cls G s.heap [] := gS.start hG
  have hl := lv_entry ([.ref h, .ref sh]) (n := 2) (Nat.le_of_ble_eq_true rfl)
  rw [lg_entry_eq]
  generalize (lg_sl ([.ref h, .ref sh]) ++ List.replicate (2 - (lg_sl ([.ref h, .ref sh])).length) Slot.unset).toArray = ls at hl ⊢
  have hl : lv_has ls 2 [(0, .ref h), (1, .ref sh)] := hl
  have hK : gKe (fun q => q = h) G G := gKe.rf
  refine lv_aload_n hx hb d_ma_init_0 rfl (lv_at hl 0 rfl) ?_
  refine W.objInit hx hb S.2.2.2.1 (S.2.2.2.2 _ tw_50) (S.2.2.2.2 _ tw_20) (S.2.2.2.2 _ tw_21) rfl (by rw [hml]; exact hl.1) rfl d_ma_init_1 (Nat.le_of_ble_eq_true rfl) (Nat.le_of_ble_eq_true rfl) ?_
  refine W.eq (g2 := F0 m 4 ls []) rfl ?_
  refine lv_aload_n hx hb d_ma_init_4 rfl (lv_at hl 0 rfl) ?_
  refine lv_aload_n hx hb d_ma_init_5 rfl (lv_at hl 1 rfl) ?_
  refine g_putF S hE.1 hG hp rfl in_ma ty_ma tyok_ma nm_ma 0 (by decide) tw_51 (fun _ h9 => h9) rfl hin rfl (ty := (.object "PackSeeds$Shape")) (by decide +kernel) rfl rfl (Nat.le_of_ble_eq_true rfl) d_ma_init_6 (fun H locs hG => ?_)
  have hG : gS (gA G s.heap.size) s.heap Z.1 cls (gup G h (.inr (2, [.ref sh, .null, .int 0, .int 0]))) H locs := hG
  generalize eG6 : gup G h (.inr (2, [.ref sh, .null, .int 0, .int 0])) = G6 at hG
  have f6 : G6 h = some (.inr (2, [.ref sh, .null, .int 0, .int 0])) := by rw [← eG6]; exact gup_self _ _ _
  have hK : gKe (fun q => q = h) G G6 := by rw [← eG6]; exact hK.up (by simp)
  refine lv_aload_n hx hb d_ma_init_9 rfl (lv_at hl 0 rfl) ?_
  refine lv_bipush (v := nI 48) hx hb d_ma_init_10 (by decide) ?_
  refine g_newa (atype := .long) (ty := .long) (N' := 48) (a0 := (48, .inr (.inl (fun _ => 0)))) S hE.1 hG tw_65 rfl 0 rfl (fun h => h) (fun cA => rfl) (by decide) (by decide) (by decide) (Nat.le_of_ble_eq_true rfl) (Nat.le_of_ble_eq_true rfl) d_ma_init_12 (fun q12 H hq12 hn12 hG => ?_)
  have hG : gS (gA G s.heap.size) s.heap Z.1 cls (gup G6 q12 (.inl (Z.2 0, 48, .inr (.inl (fun _ => 0))))) H _ := hG
  generalize eG12 : gup G6 q12 (.inl (Z.2 0, 48, .inr (.inl (fun _ => 0)))) = G12 at hG
  have f12_h : G12 h = some (.inr (2, [.ref sh, .null, .int 0, .int 0])) := by rw [← eG12]; exact gup_new hn12 f6
  have f12 : G12 q12 = some (.inl (Z.2 0, 48, .inr (.inl (fun _ => 0)))) := by rw [← eG12]; exact gup_self _ _ _
  have hK : gKe (fun q => q = h) G G12 := by rw [← eG12]; exact hK.new hn12
  refine g_putF S hE.1 hG f12_h rfl in_ma ty_ma tyok_ma nm_ma 1 (by decide) tw_52 (fun _ h9 => h9) rfl hin rfl (ty := (.array .long)) (by decide +kernel) rfl rfl (Nat.le_of_ble_eq_true rfl) d_ma_init_14 (fun H locs hG => ?_)
  have hG : gS (gA G s.heap.size) s.heap Z.1 cls (gup G12 h (.inr (2, [.ref sh, .ref q12, .int 0, .int 0]))) H locs := hG
  generalize eG14 : gup G12 h (.inr (2, [.ref sh, .ref q12, .int 0, .int 0])) = G14 at hG
  have f14_q12 : G14 q12 = some (.inl (Z.2 0, 48, .inr (.inl (fun _ => 0)))) := by rw [← eG14]; exact gup_keep f12_h f12 (by simp)
  have f14 : G14 h = some (.inr (2, [.ref sh, .ref q12, .int 0, .int 0])) := by rw [← eG14]; exact gup_self _ _ _
  have hK : gKe (fun q => q = h) G G14 := by rw [← eG14]; exact hK.up (by simp)
  refine lv_aload_n hx hb d_ma_init_17 rfl (lv_at hl 0 rfl) ?_
  refine lv_bipush (v := 8) hx hb d_ma_init_18 (by decide) ?_
  refine g_put S hE.1 hG f14 rfl in_ma ty_ma tyok_ma nm_ma 2 (by decide) tw_53 (fun _ h9 => h9) rfl (ty := .int) (by decide +kernel) rfl rfl (Nat.le_of_ble_eq_true rfl) d_ma_init_20 (fun H locs hG => ?_)
  have hG : gS (gA G s.heap.size) s.heap Z.1 cls (gup G14 h (.inr (2, [.ref sh, .ref q12, .int 8, .int 0]))) H locs := hG
  generalize eG20 : gup G14 h (.inr (2, [.ref sh, .ref q12, .int 8, .int 0])) = G20 at hG
  have f20_q12 : G20 q12 = some (.inl (Z.2 0, 48, .inr (.inl (fun _ => 0)))) := by rw [← eG20]; exact gup_keep f14 f14_q12 (by simp)
  have f20 : G20 h = some (.inr (2, [.ref sh, .ref q12, .int 8, .int 0])) := by rw [← eG20]; exact gup_self _ _ _
  have hK : gKe (fun q => q = h) G G20 := by rw [← eG20]; exact hK.up (by simp)
  refine lv_aload_n hx hb d_ma_init_23 rfl (lv_at hl 0 rfl) ?_
  refine lv_sipush (v := 128) hx hb d_ma_init_24 (by decide) ?_
  refine g_put S hE.1 hG f20 rfl in_ma ty_ma tyok_ma nm_ma 3 (by decide) tw_55 (fun _ h9 => h9) rfl (ty := .int) (by decide +kernel) rfl rfl (Nat.le_of_ble_eq_true rfl) d_ma_init_27 (fun H locs hG => ?_)
  have hG : gS (gA G s.heap.size) s.heap Z.1 cls (gup G20 h (.inr (2, [.ref sh, .ref q12, .int 8, .int 128]))) H locs := hG
  generalize eG27 : gup G20 h (.inr (2, [.ref sh, .ref q12, .int 8, .int 128])) = G27 at hG
  have f27_q12 : G27 q12 = some (.inl (Z.2 0, 48, .inr (.inl (fun _ => 0)))) := by rw [← eG27]; exact gup_keep f20 f20_q12 (by simp)
  have f27 : G27 h = some (.inr (2, [.ref sh, .ref q12, .int 8, .int 128])) := by rw [← eG27]; exact gup_self _ _ _
  have hK : gKe (fun q => q = h) G G27 := by rw [← eG27]; exact hK.up (by simp)
  refine W.widen (k := 1) (n := 48) (Nat.le_of_ble_eq_true rfl) (Nat.le_of_ble_eq_true rfl) ?_
  exact (W.vret hx hb hr (fun t9 ht9 hW9 => ⟨⟨_, rfl, ⟨hK, q12, gnone (by rw [← eG6] at hn12; exact hn12), f27_q12, f27⟩, by rw [ht9]; exact hG.1, hG.2.1⟩, hG.2.2.1.F ht9⟩) hG.2.2.1.2.2 d_ma_init_30)

set_option maxHeartbeats 600000 in
set_option maxRecDepth 100000 in
theorem c_ps_init (l : Launch) (Z : gZ) (G : gh) (sz : Nat) (h : Nat) (hp : G h = some (.inr (0, [.null, .null, .null, .int 0, .int 0]))) (a b : Int32) : Met l y_ps_init (wd_ps_init :: Gall) ({ frames := 2, cells := 4, slots := 78, locals := 45 }) (va_Pc [.ref h, .int a, .int b] (gPo Z G sz)) (va_Qv (fun (G9 : gh) => gKe (fun q => q = h) G G9 ∧ ∃ sh ma ro pa, G sh = none ∧ G ma = none ∧ G ro = none ∧ G pa = none ∧ G9 h = some (.inr (0, [.ref sh, .ref ma, .ref pa, .int 0, .int 0])) ∧ G9 sh = some (.inr (1, [.int (cla 4 a), .int (cla 8 b)])) ∧ G9 ma = some (.inr (2, [.ref sh, .ref ro, .int 8, .int 128])) ∧ G9 ro = some (.inl (Z.2 0, 48, .inr (.inl (fun _ => 0)))) ∧ G9 pa = some (.inl (Z.2 3, 24, .inr (.inr (.inr (.inr (fun _ => none))))))) (gW Z G sz) (gA G sz)) 4 78 (gA G sz) := by
  refine Met.ofW (cc := b_ps_init) (maxL := 3) (ret := none) (by decide) rfl ?_
  intro p e s m args below meth c s₁ B hml hv
  obtain ⟨rfl, hAO, hsz, hG, hE⟩ := hv
  subst hsz
  have hx := B.exec
  have hb := B.bytes
  have hr := B.returns
  have hlocks := B.notSynchronized
  have hin : meth.name = "<init>" := (name_of_methodNamed B.named B.method).1
  have S : CallFix p m c b_ps_init 3 s _ Gall "PackSeeds" := ⟨hx, hb, hml, findClass_of_methodNamed B.named, fun w hw => atoms_spec (ws := wd_ps_init :: Gall) B.pre w (List.mem_cons_of_mem _ hw)⟩
  have hG : gS (gA G s.heap.size) s.heap Z.1 cls G s.heap [] := gS.start hG
  have hl := lv_entry ([.ref h, .int a, .int b]) (n := 3) (Nat.le_of_ble_eq_true rfl)
  rw [lg_entry_eq]
  generalize (lg_sl ([.ref h, .int a, .int b]) ++ List.replicate (3 - (lg_sl ([.ref h, .int a, .int b])).length) Slot.unset).toArray = ls at hl ⊢
  have hl : lv_has ls 3 [(0, .ref h), (1, .int a), (2, .int b)] := hl
  have hK : gKe (fun q => q = h) G G := gKe.rf
  refine lv_aload_n hx hb d_ps_init_0 rfl (lv_at hl 0 rfl) ?_
  refine W.objInit hx hb S.2.2.2.1 (S.2.2.2.2 _ tw_19) (S.2.2.2.2 _ tw_20) (S.2.2.2.2 _ tw_21) rfl (by rw [hml]; exact hl.1) rfl d_ps_init_1 (Nat.le_of_ble_eq_true rfl) (Nat.le_of_ble_eq_true rfl) ?_
  refine W.eq (g2 := F0 m 4 ls []) rfl ?_
  refine lv_aload_n hx hb d_ps_init_4 rfl (lv_at hl 0 rfl) ?_
  refine g_new S hE.1 hG (ci := 1) (fs := [.int 0, .int 0]) rfl in_sh ty_sh tyok_sh tw_22 tw_23 tw_2 (fun j hj => by rcases (show j = 0 ∨ j = 1 by omega) with rfl | rfl <;> rfl) (Nat.le_of_ble_eq_true rfl) (Nat.le_of_ble_eq_true rfl) d_ps_init_5 (fun q5 H hq5 hn5 hG => ?_)
  have hG : gS (gA G s.heap.size) s.heap Z.1 cls (gup G q5 (.inr (1, [.int 0, .int 0]))) H _ := hG
  generalize eG5 : gup G q5 (.inr (1, [.int 0, .int 0])) = G5 at hG
  have f5_h : G5 h = some (.inr (0, [.null, .null, .null, .int 0, .int 0])) := by rw [← eG5]; exact gup_new hn5 hp
  have f5 : G5 q5 = some (.inr (1, [.int 0, .int 0])) := by rw [← eG5]; exact gup_self _ _ _
  have hK : gKe (fun q => q = h) G G5 := by rw [← eG5]; exact hK.new hn5
  refine lv_dup hx hb d_ps_init_8 rfl ?_
  refine lv_iload_n hx hb d_ps_init_9 rfl (lv_at hl 1 rfl) ?_
  refine lv_iload_n hx hb d_ps_init_10 rfl (lv_at hl 2 rfl) ?_
  refine g_wv hG (g_runIN (As := [.int a, .int b]) (rest := [.ref q5, .ref h]) S hE lk_ps_9 k_sh_init (c_sh_init l Z G5 H.size q5 f5 a b) ⟨rfl, rfl⟩ ⟨(Nat.le_of_ble_eq_true rfl), (Nat.le_of_ble_eq_true rfl)⟩ (gPwS hG.1 hE) rfl hl.1 rfl (Nat.le_of_ble_eq_true rfl) d_ps_init_11 ⟨(Nat.le_of_ble_eq_true rfl), (Nat.le_of_ble_eq_true rfl)⟩) (fun G11 H locs h11 hG => ?_)
  have n5 : G q5 = none := hn5
  have f11 : G11 q5 = some (.inr (1, [.int (cla 4 a), .int (cla 8 b)])) := by rw [h11]; exact gup_self _ _ _
  have f11_h : G11 h = some (.inr (0, [.null, .null, .null, .int 0, .int 0])) := by rw [h11]; exact gup_keep f5 f5_h (by simp)
  have hK : gKe (fun q => q = h) G G11 := fun q h1 h2 => by rw [h11, gup_ne _ _ (fun z => h2 (by rw [z]; exact n5))]; exact hK q h1 h2
  refine g_putF S hE.1 hG f11_h rfl in_ps ty_ps tyok_ps nm_ps 0 (by decide) tw_68 (fun _ h9 => h9) rfl hin rfl (ty := (.object "PackSeeds$Shape")) (by decide +kernel) rfl rfl (Nat.le_of_ble_eq_true rfl) d_ps_init_14 (fun H locs hG => ?_)
  have hG : gS (gA G s.heap.size) s.heap Z.1 cls (gup G11 h (.inr (0, [.ref q5, .null, .null, .int 0, .int 0]))) H locs := hG
  generalize eG14 : gup G11 h (.inr (0, [.ref q5, .null, .null, .int 0, .int 0])) = G14 at hG
  have f14_q5 : G14 q5 = some (.inr (1, [.int (cla 4 a), .int (cla 8 b)])) := by rw [← eG14]; exact gup_keep f11_h f11 (by simp)
  have f14 : G14 h = some (.inr (0, [.ref q5, .null, .null, .int 0, .int 0])) := by rw [← eG14]; exact gup_self _ _ _
  have hK : gKe (fun q => q = h) G G14 := by rw [← eG14]; exact hK.up (by simp)
  have hKa := hK
  refine lv_aload_n hx hb d_ps_init_17 rfl (lv_at hl 0 rfl) ?_
  refine g_new S hE.1 hG (ci := 2) (fs := [.null, .null, .int 0, .int 0]) rfl in_ma ty_ma tyok_ma tw_45 tw_46 tw_4 (fun j hj => by rcases (show j = 0 ∨ j = 1 ∨ j = 2 ∨ j = 3 by omega) with rfl | rfl | rfl | rfl <;> rfl) (Nat.le_of_ble_eq_true rfl) (Nat.le_of_ble_eq_true rfl) d_ps_init_18 (fun q18 H hq18 hn18 hG => ?_)
  have hG : gS (gA G s.heap.size) s.heap Z.1 cls (gup G14 q18 (.inr (2, [.null, .null, .int 0, .int 0]))) H _ := hG
  generalize eG18 : gup G14 q18 (.inr (2, [.null, .null, .int 0, .int 0])) = G18 at hG
  have f18_q5 : G18 q5 = some (.inr (1, [.int (cla 4 a), .int (cla 8 b)])) := by rw [← eG18]; exact gup_new hn18 f14_q5
  have f18_h : G18 h = some (.inr (0, [.ref q5, .null, .null, .int 0, .int 0])) := by rw [← eG18]; exact gup_new hn18 f14
  have f18 : G18 q18 = some (.inr (2, [.null, .null, .int 0, .int 0])) := by rw [← eG18]; exact gup_self _ _ _
  have hK : gKe (fun q => q = h) G G18 := by rw [← eG18]; exact hK.new hn18
  refine lv_dup hx hb d_ps_init_21 rfl ?_
  refine lv_aload_n hx hb d_ps_init_22 rfl (lv_at hl 0 rfl) ?_
  refine g_get S hE.1 hG.1 f18_h rfl in_ps 0 (by decide) tw_68 (fun _ h9 => h9) rfl d_ps_init_23 ?_
  have hK0 := hK
  refine g_wv hG (g_runIN (As := [.ref q5]) (rest := [.ref q18, .ref h]) S hE lk_ps_20 k_ma_init (c_ma_init l Z G18 H.size q18 q5 f18) ⟨rfl, rfl⟩ ⟨(Nat.le_of_ble_eq_true rfl), (Nat.le_of_ble_eq_true rfl)⟩ (gPwS hG.1 hE) rfl hl.1 rfl (Nat.le_of_ble_eq_true rfl) d_ps_init_26 ⟨(Nat.le_of_ble_eq_true rfl), (Nat.le_of_ble_eq_true rfl)⟩) (fun G26 H locs h26 hG => ?_)
  have n18 : G q18 = none := gnoneK2 hKa hn18 f14
  obtain ⟨k26, ro, n26, r26, f26⟩ := h26
  have f26_h := k26.get (fun z => by rw [z] at f18_h; rw [f18] at f18_h; simp at f18_h) f18_h
  have f26_q5 := k26.get (fun z => by rw [z] at f18_q5; rw [f18] at f18_q5; simp at f18_q5) f18_q5
  have hK : gKe (fun q => q = h) G G26 := fun q h1 h2 => (k26 q (fun z => h2 (by rw [z]; exact n18)) (by rw [hK q h1 h2]; exact h2)).trans (hK q h1 h2)
  have nro : G ro = none := gnoneK2 hK0 n26 f18_h
  refine g_putF S hE.1 hG f26_h rfl in_ps ty_ps tyok_ps nm_ps 1 (by decide) tw_69 (fun _ h9 => h9) rfl hin rfl (ty := (.object "PackSeeds$Machine")) (by decide +kernel) rfl rfl (Nat.le_of_ble_eq_true rfl) d_ps_init_29 (fun H locs hG => ?_)
  have hG : gS (gA G s.heap.size) s.heap Z.1 cls (gup G26 h (.inr (0, [.ref q5, .ref q18, .null, .int 0, .int 0]))) H locs := hG
  generalize eG29 : gup G26 h (.inr (0, [.ref q5, .ref q18, .null, .int 0, .int 0])) = G29 at hG
  have f29_q5 : G29 q5 = some (.inr (1, [.int (cla 4 a), .int (cla 8 b)])) := by rw [← eG29]; exact gup_keep f26_h f26_q5 (by simp)
  have f29_q18 : G29 q18 = some (.inr (2, [.ref q5, .ref ro, .int 8, .int 128])) := by rw [← eG29]; exact gup_keep f26_h f26 (by simp)
  have f29_ro : G29 ro = some (.inl (Z.2 0, 48, .inr (.inl (fun _ => 0)))) := by rw [← eG29]; exact gup_keep f26_h r26 (by simp)
  have f29 : G29 h = some (.inr (0, [.ref q5, .ref q18, .null, .int 0, .int 0])) := by rw [← eG29]; exact gup_self _ _ _
  have hK : gKe (fun q => q = h) G G29 := by rw [← eG29]; exact hK.up (by simp)
  have hK35 := hK
  refine lv_aload_n hx hb d_ps_init_32 rfl (lv_at hl 0 rfl) ?_
  refine lv_bipush (v := nI 24) hx hb d_ps_init_33 (by decide) ?_
  refine g_newq (N' := 24) S hE.1 hG tw_66 hAO 3 rfl (by decide) (by decide) (by decide) (Nat.le_of_ble_eq_true rfl) (Nat.le_of_ble_eq_true rfl) d_ps_init_35 (fun q35 H hq35 hn35 hG => ?_)
  have hG : gS (gA G s.heap.size) s.heap Z.1 cls (gup G29 q35 (.inl (Z.2 3, 24, .inr (.inr (.inr (.inr (fun _ => none))))))) H _ := hG
  generalize eG35 : gup G29 q35 (.inl (Z.2 3, 24, .inr (.inr (.inr (.inr (fun _ => none)))))) = G35 at hG
  have f35_q5 : G35 q5 = some (.inr (1, [.int (cla 4 a), .int (cla 8 b)])) := by rw [← eG35]; exact gup_new hn35 f29_q5
  have f35_q18 : G35 q18 = some (.inr (2, [.ref q5, .ref ro, .int 8, .int 128])) := by rw [← eG35]; exact gup_new hn35 f29_q18
  have f35_ro : G35 ro = some (.inl (Z.2 0, 48, .inr (.inl (fun _ => 0)))) := by rw [← eG35]; exact gup_new hn35 f29_ro
  have f35_h : G35 h = some (.inr (0, [.ref q5, .ref q18, .null, .int 0, .int 0])) := by rw [← eG35]; exact gup_new hn35 f29
  have f35 : G35 q35 = some (.inl (Z.2 3, 24, .inr (.inr (.inr (.inr (fun _ => none)))))) := by rw [← eG35]; exact gup_self _ _ _
  have hK : gKe (fun q => q = h) G G35 := by rw [← eG35]; exact hK.new hn35
  refine g_putF S hE.1 hG f35_h rfl in_ps ty_ps tyok_ps nm_ps 2 (by decide) tw_70 (fun _ h9 => h9) rfl hin rfl (ty := (.array (.object "PackSeeds$Pattern"))) (by decide +kernel) rfl rfl (Nat.le_of_ble_eq_true rfl) d_ps_init_38 (fun H locs hG => ?_)
  have hG : gS (gA G s.heap.size) s.heap Z.1 cls (gup G35 h (.inr (0, [.ref q5, .ref q18, .ref q35, .int 0, .int 0]))) H locs := hG
  generalize eG38 : gup G35 h (.inr (0, [.ref q5, .ref q18, .ref q35, .int 0, .int 0])) = G38 at hG
  have f38_q5 : G38 q5 = some (.inr (1, [.int (cla 4 a), .int (cla 8 b)])) := by rw [← eG38]; exact gup_keep f35_h f35_q5 (by simp)
  have f38_q18 : G38 q18 = some (.inr (2, [.ref q5, .ref ro, .int 8, .int 128])) := by rw [← eG38]; exact gup_keep f35_h f35_q18 (by simp)
  have f38_ro : G38 ro = some (.inl (Z.2 0, 48, .inr (.inl (fun _ => 0)))) := by rw [← eG38]; exact gup_keep f35_h f35_ro (by simp)
  have f38_q35 : G38 q35 = some (.inl (Z.2 3, 24, .inr (.inr (.inr (.inr (fun _ => none)))))) := by rw [← eG38]; exact gup_keep f35_h f35 (by simp)
  have f38 : G38 h = some (.inr (0, [.ref q5, .ref q18, .ref q35, .int 0, .int 0])) := by rw [← eG38]; exact gup_self _ _ _
  have hK : gKe (fun q => q = h) G G38 := by rw [← eG38]; exact hK.up (by simp)
  refine lv_aload_n hx hb d_ps_init_41 rfl (lv_at hl 0 rfl) ?_
  refine lv_iconst (v := 0) hx hb d_ps_init_42 (by decide) ?_
  refine g_put S hE.1 hG f38 rfl in_ps ty_ps tyok_ps nm_ps 3 (by decide) tw_71 (fun _ h9 => h9) rfl (ty := .int) (by decide +kernel) rfl rfl (Nat.le_of_ble_eq_true rfl) d_ps_init_43 (fun H locs hG => ?_)
  have hG : gS (gA G s.heap.size) s.heap Z.1 cls (gup G38 h (.inr (0, [.ref q5, .ref q18, .ref q35, .int 0, .int 0]))) H locs := hG
  generalize eG43 : gup G38 h (.inr (0, [.ref q5, .ref q18, .ref q35, .int 0, .int 0])) = G43 at hG
  have f43_q5 : G43 q5 = some (.inr (1, [.int (cla 4 a), .int (cla 8 b)])) := by rw [← eG43]; exact gup_keep f38 f38_q5 (by simp)
  have f43_q18 : G43 q18 = some (.inr (2, [.ref q5, .ref ro, .int 8, .int 128])) := by rw [← eG43]; exact gup_keep f38 f38_q18 (by simp)
  have f43_ro : G43 ro = some (.inl (Z.2 0, 48, .inr (.inl (fun _ => 0)))) := by rw [← eG43]; exact gup_keep f38 f38_ro (by simp)
  have f43_q35 : G43 q35 = some (.inl (Z.2 3, 24, .inr (.inr (.inr (.inr (fun _ => none)))))) := by rw [← eG43]; exact gup_keep f38 f38_q35 (by simp)
  have f43 : G43 h = some (.inr (0, [.ref q5, .ref q18, .ref q35, .int 0, .int 0])) := by rw [← eG43]; exact gup_self _ _ _
  have hK : gKe (fun q => q = h) G G43 := by rw [← eG43]; exact hK.up (by simp)
  refine lv_aload_n hx hb d_ps_init_46 rfl (lv_at hl 0 rfl) ?_
  refine lv_iconst (v := 0) hx hb d_ps_init_47 (by decide) ?_
  refine g_put S hE.1 hG f43 rfl in_ps ty_ps tyok_ps nm_ps 4 (by decide) tw_72 (fun _ h9 => h9) rfl (ty := .int) (by decide +kernel) rfl rfl (Nat.le_of_ble_eq_true rfl) d_ps_init_48 (fun H locs hG => ?_)
  have hG : gS (gA G s.heap.size) s.heap Z.1 cls (gup G43 h (.inr (0, [.ref q5, .ref q18, .ref q35, .int 0, .int 0]))) H locs := hG
  generalize eG48 : gup G43 h (.inr (0, [.ref q5, .ref q18, .ref q35, .int 0, .int 0])) = G48 at hG
  have f48_q5 : G48 q5 = some (.inr (1, [.int (cla 4 a), .int (cla 8 b)])) := by rw [← eG48]; exact gup_keep f43 f43_q5 (by simp)
  have f48_q18 : G48 q18 = some (.inr (2, [.ref q5, .ref ro, .int 8, .int 128])) := by rw [← eG48]; exact gup_keep f43 f43_q18 (by simp)
  have f48_ro : G48 ro = some (.inl (Z.2 0, 48, .inr (.inl (fun _ => 0)))) := by rw [← eG48]; exact gup_keep f43 f43_ro (by simp)
  have f48_q35 : G48 q35 = some (.inl (Z.2 3, 24, .inr (.inr (.inr (.inr (fun _ => none)))))) := by rw [← eG48]; exact gup_keep f43 f43_q35 (by simp)
  have f48 : G48 h = some (.inr (0, [.ref q5, .ref q18, .ref q35, .int 0, .int 0])) := by rw [← eG48]; exact gup_self _ _ _
  have hK : gKe (fun q => q = h) G G48 := by rw [← eG48]; exact hK.up (by simp)
  refine W.widen (k := 4) (n := 78) (Nat.le_of_ble_eq_true rfl) (Nat.le_of_ble_eq_true rfl) ?_
  exact (W.vret hx hb hr (fun t9 ht9 hW9 => ⟨⟨_, rfl, ⟨hK, q5, q18, ro, q35, n5, n18, nro, gnoneK2 hK35 hn35 f29, f48, f48_q5, f48_q18, f48_ro, f48_q35⟩, by rw [ht9]; exact hG.1, hG.2.1⟩, hG.2.2.1.F ht9⟩) hG.2.2.1.2.2 d_ps_init_51)
