set_option maxHeartbeats 600000 in
set_option maxRecDepth 100000 in
theorem c_mo_init (l : Launch) (Z : gZ) (G : gh) (sz : Nat) (h : Nat) (hp : G h = some (.inr (4, [.int 0, .int 0, .int 0, .null, .null, .null, .null, .null, .int 0, .int 0, .null, .int 0, .null]))) (a b : Int32) {C E : Nat} (hC0 : cla 4 a = nI C) (hE0 : cla 8 b = nI E) (hC : C ≤ 4) (hE8 : E ≤ 8) : Met l y_mo_init (wd_mo_init :: Gall) ({ frames := 1, cells := 7, slots := 2360, locals := 20 }) (va_Pc [.ref h, .int a, .int b] (gPw Z G sz)) (va_Qv (fun (G9 : gh) => gKe (fun q => q = h) G G9 ∧ ∃ u1 u2 u3 u4 u5 u6 u7, (G u1 = none ∧ G u2 = none ∧ G u3 = none ∧ G u4 = none ∧ G u5 = none ∧ G u6 = none ∧ G u7 = none) ∧ moQ Z G9 h u1 u2 u3 u4 u5 u6 u7 0 C E 0 8 0 128 (fun _ => none) (fun _ => pat0)) (gW Z G sz) (gA G sz)) 7 2360 (gA G sz) := by
  refine Met.ofW (cc := b_mo_init) (maxL := 3) (ret := none) (by decide) rfl ?_
  intro p e s m args below meth c s₁ B hml hv
  obtain ⟨rfl, hsz, hG, hE⟩ := hv
  subst hsz
  have hx := B.exec
  have hb := B.bytes
  have hr := B.returns
  have hlocks := B.notSynchronized
  have hin : meth.name = "<init>" := (name_of_methodNamed B.named B.method).1
  have S : CallFix p m c b_mo_init 3 s _ Gall "PackSeedsModel" := ⟨hx, hb, hml, findClass_of_methodNamed B.named, fun w hw => atoms_spec (ws := wd_mo_init :: Gall) B.pre w (List.mem_cons_of_mem _ hw)⟩
  have hG : gS (gA G s.heap.size) s.heap Z.1 cls G s.heap [] := gS.start hG
  have hl := lv_entry ([.ref h, .int a, .int b]) (n := 3) (Nat.le_of_ble_eq_true rfl)
  rw [lg_entry_eq]
  generalize (lg_sl ([.ref h, .int a, .int b]) ++ List.replicate (3 - (lg_sl ([.ref h, .int a, .int b])).length) Slot.unset).toArray = ls at hl ⊢
  have hl : lv_has ls 3 [(0, .ref h), (1, .int a), (2, .int b)] := hl
  have hK : gKe (fun q => q = h) G G := gKe.rf
  refine lv_aload_n hx hb d_mo_init_0 rfl (lv_at hl 0 rfl) ?_
  refine W.objInit hx hb S.2.2.2.1 (S.2.2.2.2 _ tw_490) (S.2.2.2.2 _ tw_20) (S.2.2.2.2 _ tw_21) rfl (by rw [hml]; exact hl.1) rfl d_mo_init_1 (Nat.le_of_ble_eq_true rfl) (Nat.le_of_ble_eq_true rfl) ?_
  refine W.eq (g2 := F0 m 4 ls []) rfl ?_
  refine lv_aload_n hx hb d_mo_init_4 rfl (lv_at hl 0 rfl) ?_
  refine lv_sipush (v := nI 768) hx hb d_mo_init_5 (by decide) ?_
  have hK8 := hK
  refine g_newa (atype := .int) (ty := .int) (N' := 768) (a0 := (768, .inl (fun _ => 0))) S hE.1 hG tw_531 rfl 1 rfl (fun h => h) (fun cA => rfl) (by decide) (by decide) (by decide) (Nat.le_of_ble_eq_true rfl) (Nat.le_of_ble_eq_true rfl) d_mo_init_8 (fun q8 H hq8 hn8 hG => ?_)
  have hG : gS (gA G s.heap.size) s.heap Z.1 cls (gup G q8 (.inl (Z.2 1, 768, .inl (fun _ => 0)))) H _ := hG
  generalize eG8 : gup G q8 (.inl (Z.2 1, 768, .inl (fun _ => 0))) = G8 at hG
  have f8_h : G8 h = some (.inr (4, [.int 0, .int 0, .int 0, .null, .null, .null, .null, .null, .int 0, .int 0, .null, .int 0, .null])) := by rw [← eG8]; exact gup_new hn8 hp
  have f8 : G8 q8 = some (.inl (Z.2 1, 768, .inl (fun _ => 0))) := by rw [← eG8]; exact gup_self _ _ _
  have hK : gKe (fun q => q = h) G G8 := by rw [← eG8]; exact hK.new hn8
  refine g_putF S hE.1 hG f8_h rfl in_mo ty_mo tyok_mo nm_mo 3 (by decide) tw_494 (fun _ h9 => h9) rfl hin rfl (ty := (.array .int)) (by decide +kernel) rfl rfl (Nat.le_of_ble_eq_true rfl) d_mo_init_10 (fun H locs hG => ?_)
  have hG : gS (gA G s.heap.size) s.heap Z.1 cls (gup G8 h (.inr (4, [.int 0, .int 0, .int 0, .ref q8, .null, .null, .null, .null, .int 0, .int 0, .null, .int 0, .null]))) H locs := hG
  generalize eG10 : gup G8 h (.inr (4, [.int 0, .int 0, .int 0, .ref q8, .null, .null, .null, .null, .int 0, .int 0, .null, .int 0, .null])) = G10 at hG
  have f10_q8 : G10 q8 = some (.inl (Z.2 1, 768, .inl (fun _ => 0))) := by rw [← eG10]; exact gup_keep f8_h f8 (by simp)
  have f10 : G10 h = some (.inr (4, [.int 0, .int 0, .int 0, .ref q8, .null, .null, .null, .null, .int 0, .int 0, .null, .int 0, .null])) := by rw [← eG10]; exact gup_self _ _ _
  have hK : gKe (fun q => q = h) G G10 := by rw [← eG10]; exact hK.up (by simp)
  refine lv_aload_n hx hb d_mo_init_13 rfl (lv_at hl 0 rfl) ?_
  refine lv_sipush (v := nI 768) hx hb d_mo_init_14 (by decide) ?_
  have hK17 := hK
  refine g_newa (atype := .boolean) (ty := .boolean) (N' := 768) (a0 := (768, .inl (fun _ => 0))) S hE.1 hG tw_532 rfl 2 rfl (fun h => h) (fun cA => rfl) (by decide) (by decide) (by decide) (Nat.le_of_ble_eq_true rfl) (Nat.le_of_ble_eq_true rfl) d_mo_init_17 (fun q17 H hq17 hn17 hG => ?_)
  have hG : gS (gA G s.heap.size) s.heap Z.1 cls (gup G10 q17 (.inl (Z.2 2, 768, .inl (fun _ => 0)))) H _ := hG
  generalize eG17 : gup G10 q17 (.inl (Z.2 2, 768, .inl (fun _ => 0))) = G17 at hG
  have f17_q8 : G17 q8 = some (.inl (Z.2 1, 768, .inl (fun _ => 0))) := by rw [← eG17]; exact gup_new hn17 f10_q8
  have f17_h : G17 h = some (.inr (4, [.int 0, .int 0, .int 0, .ref q8, .null, .null, .null, .null, .int 0, .int 0, .null, .int 0, .null])) := by rw [← eG17]; exact gup_new hn17 f10
  have f17 : G17 q17 = some (.inl (Z.2 2, 768, .inl (fun _ => 0))) := by rw [← eG17]; exact gup_self _ _ _
  have hK : gKe (fun q => q = h) G G17 := by rw [← eG17]; exact hK.new hn17
  refine g_putF S hE.1 hG f17_h rfl in_mo ty_mo tyok_mo nm_mo 4 (by decide) tw_495 (fun _ h9 => h9) rfl hin rfl (ty := (.array .boolean)) (by decide +kernel) rfl rfl (Nat.le_of_ble_eq_true rfl) d_mo_init_19 (fun H locs hG => ?_)
  have hG : gS (gA G s.heap.size) s.heap Z.1 cls (gup G17 h (.inr (4, [.int 0, .int 0, .int 0, .ref q8, .ref q17, .null, .null, .null, .int 0, .int 0, .null, .int 0, .null]))) H locs := hG
  generalize eG19 : gup G17 h (.inr (4, [.int 0, .int 0, .int 0, .ref q8, .ref q17, .null, .null, .null, .int 0, .int 0, .null, .int 0, .null])) = G19 at hG
  have f19_q8 : G19 q8 = some (.inl (Z.2 1, 768, .inl (fun _ => 0))) := by rw [← eG19]; exact gup_keep f17_h f17_q8 (by simp)
  have f19_q17 : G19 q17 = some (.inl (Z.2 2, 768, .inl (fun _ => 0))) := by rw [← eG19]; exact gup_keep f17_h f17 (by simp)
  have f19 : G19 h = some (.inr (4, [.int 0, .int 0, .int 0, .ref q8, .ref q17, .null, .null, .null, .int 0, .int 0, .null, .int 0, .null])) := by rw [← eG19]; exact gup_self _ _ _
  have hK : gKe (fun q => q = h) G G19 := by rw [← eG19]; exact hK.up (by simp)
  refine lv_aload_n hx hb d_mo_init_22 rfl (lv_at hl 0 rfl) ?_
  refine lv_sipush (v := nI 744) hx hb d_mo_init_23 (by decide) ?_
  have hK26 := hK
  refine g_newa (atype := .boolean) (ty := .boolean) (N' := 744) (a0 := (744, .inl (fun _ => 0))) S hE.1 hG tw_532 rfl 2 rfl (fun h => h) (fun cA => rfl) (by decide) (by decide) (by decide) (Nat.le_of_ble_eq_true rfl) (Nat.le_of_ble_eq_true rfl) d_mo_init_26 (fun q26 H hq26 hn26 hG => ?_)
  have hG : gS (gA G s.heap.size) s.heap Z.1 cls (gup G19 q26 (.inl (Z.2 2, 744, .inl (fun _ => 0)))) H _ := hG
  generalize eG26 : gup G19 q26 (.inl (Z.2 2, 744, .inl (fun _ => 0))) = G26 at hG
  have f26_q8 : G26 q8 = some (.inl (Z.2 1, 768, .inl (fun _ => 0))) := by rw [← eG26]; exact gup_new hn26 f19_q8
  have f26_q17 : G26 q17 = some (.inl (Z.2 2, 768, .inl (fun _ => 0))) := by rw [← eG26]; exact gup_new hn26 f19_q17
  have f26_h : G26 h = some (.inr (4, [.int 0, .int 0, .int 0, .ref q8, .ref q17, .null, .null, .null, .int 0, .int 0, .null, .int 0, .null])) := by rw [← eG26]; exact gup_new hn26 f19
  have f26 : G26 q26 = some (.inl (Z.2 2, 744, .inl (fun _ => 0))) := by rw [← eG26]; exact gup_self _ _ _
  have hK : gKe (fun q => q = h) G G26 := by rw [← eG26]; exact hK.new hn26
  refine g_putF S hE.1 hG f26_h rfl in_mo ty_mo tyok_mo nm_mo 5 (by decide) tw_496 (fun _ h9 => h9) rfl hin rfl (ty := (.array .boolean)) (by decide +kernel) rfl rfl (Nat.le_of_ble_eq_true rfl) d_mo_init_28 (fun H locs hG => ?_)
  have hG : gS (gA G s.heap.size) s.heap Z.1 cls (gup G26 h (.inr (4, [.int 0, .int 0, .int 0, .ref q8, .ref q17, .ref q26, .null, .null, .int 0, .int 0, .null, .int 0, .null]))) H locs := hG
  generalize eG28 : gup G26 h (.inr (4, [.int 0, .int 0, .int 0, .ref q8, .ref q17, .ref q26, .null, .null, .int 0, .int 0, .null, .int 0, .null])) = G28 at hG
  have f28_q8 : G28 q8 = some (.inl (Z.2 1, 768, .inl (fun _ => 0))) := by rw [← eG28]; exact gup_keep f26_h f26_q8 (by simp)
  have f28_q17 : G28 q17 = some (.inl (Z.2 2, 768, .inl (fun _ => 0))) := by rw [← eG28]; exact gup_keep f26_h f26_q17 (by simp)
  have f28_q26 : G28 q26 = some (.inl (Z.2 2, 744, .inl (fun _ => 0))) := by rw [← eG28]; exact gup_keep f26_h f26 (by simp)
  have f28 : G28 h = some (.inr (4, [.int 0, .int 0, .int 0, .ref q8, .ref q17, .ref q26, .null, .null, .int 0, .int 0, .null, .int 0, .null])) := by rw [← eG28]; exact gup_self _ _ _
  have hK : gKe (fun q => q = h) G G28 := by rw [← eG28]; exact hK.up (by simp)
  refine lv_aload_n hx hb d_mo_init_31 rfl (lv_at hl 0 rfl) ?_
  refine lv_bipush (v := nI 24) hx hb d_mo_init_32 (by decide) ?_
  have hK34 := hK
  refine g_newa (atype := .boolean) (ty := .boolean) (N' := 24) (a0 := (24, .inl (fun _ => 0))) S hE.1 hG tw_532 rfl 2 rfl (fun h => h) (fun cA => rfl) (by decide) (by decide) (by decide) (Nat.le_of_ble_eq_true rfl) (Nat.le_of_ble_eq_true rfl) d_mo_init_34 (fun q34 H hq34 hn34 hG => ?_)
  have hG : gS (gA G s.heap.size) s.heap Z.1 cls (gup G28 q34 (.inl (Z.2 2, 24, .inl (fun _ => 0)))) H _ := hG
  generalize eG34 : gup G28 q34 (.inl (Z.2 2, 24, .inl (fun _ => 0))) = G34 at hG
  have f34_q8 : G34 q8 = some (.inl (Z.2 1, 768, .inl (fun _ => 0))) := by rw [← eG34]; exact gup_new hn34 f28_q8
  have f34_q17 : G34 q17 = some (.inl (Z.2 2, 768, .inl (fun _ => 0))) := by rw [← eG34]; exact gup_new hn34 f28_q17
  have f34_q26 : G34 q26 = some (.inl (Z.2 2, 744, .inl (fun _ => 0))) := by rw [← eG34]; exact gup_new hn34 f28_q26
  have f34_h : G34 h = some (.inr (4, [.int 0, .int 0, .int 0, .ref q8, .ref q17, .ref q26, .null, .null, .int 0, .int 0, .null, .int 0, .null])) := by rw [← eG34]; exact gup_new hn34 f28
  have f34 : G34 q34 = some (.inl (Z.2 2, 24, .inl (fun _ => 0))) := by rw [← eG34]; exact gup_self _ _ _
  have hK : gKe (fun q => q = h) G G34 := by rw [← eG34]; exact hK.new hn34
  refine g_putF S hE.1 hG f34_h rfl in_mo ty_mo tyok_mo nm_mo 6 (by decide) tw_497 (fun _ h9 => h9) rfl hin rfl (ty := (.array .boolean)) (by decide +kernel) rfl rfl (Nat.le_of_ble_eq_true rfl) d_mo_init_36 (fun H locs hG => ?_)
  have hG : gS (gA G s.heap.size) s.heap Z.1 cls (gup G34 h (.inr (4, [.int 0, .int 0, .int 0, .ref q8, .ref q17, .ref q26, .ref q34, .null, .int 0, .int 0, .null, .int 0, .null]))) H locs := hG
  generalize eG36 : gup G34 h (.inr (4, [.int 0, .int 0, .int 0, .ref q8, .ref q17, .ref q26, .ref q34, .null, .int 0, .int 0, .null, .int 0, .null])) = G36 at hG
  have f36_q8 : G36 q8 = some (.inl (Z.2 1, 768, .inl (fun _ => 0))) := by rw [← eG36]; exact gup_keep f34_h f34_q8 (by simp)
  have f36_q17 : G36 q17 = some (.inl (Z.2 2, 768, .inl (fun _ => 0))) := by rw [← eG36]; exact gup_keep f34_h f34_q17 (by simp)
  have f36_q26 : G36 q26 = some (.inl (Z.2 2, 744, .inl (fun _ => 0))) := by rw [← eG36]; exact gup_keep f34_h f34_q26 (by simp)
  have f36_q34 : G36 q34 = some (.inl (Z.2 2, 24, .inl (fun _ => 0))) := by rw [← eG36]; exact gup_keep f34_h f34 (by simp)
  have f36 : G36 h = some (.inr (4, [.int 0, .int 0, .int 0, .ref q8, .ref q17, .ref q26, .ref q34, .null, .int 0, .int 0, .null, .int 0, .null])) := by rw [← eG36]; exact gup_self _ _ _
  have hK : gKe (fun q => q = h) G G36 := by rw [← eG36]; exact hK.up (by simp)
  refine lv_aload_n hx hb d_mo_init_39 rfl (lv_at hl 0 rfl) ?_
  refine lv_bipush (v := nI 24) hx hb d_mo_init_40 (by decide) ?_
  have hK42 := hK
  refine g_newa (atype := .int) (ty := .int) (N' := 24) (a0 := (24, .inl (fun _ => 0))) S hE.1 hG tw_531 rfl 1 rfl (fun h => h) (fun cA => rfl) (by decide) (by decide) (by decide) (Nat.le_of_ble_eq_true rfl) (Nat.le_of_ble_eq_true rfl) d_mo_init_42 (fun q42 H hq42 hn42 hG => ?_)
  have hG : gS (gA G s.heap.size) s.heap Z.1 cls (gup G36 q42 (.inl (Z.2 1, 24, .inl (fun _ => 0)))) H _ := hG
  generalize eG42 : gup G36 q42 (.inl (Z.2 1, 24, .inl (fun _ => 0))) = G42 at hG
  have f42_q8 : G42 q8 = some (.inl (Z.2 1, 768, .inl (fun _ => 0))) := by rw [← eG42]; exact gup_new hn42 f36_q8
  have f42_q17 : G42 q17 = some (.inl (Z.2 2, 768, .inl (fun _ => 0))) := by rw [← eG42]; exact gup_new hn42 f36_q17
  have f42_q26 : G42 q26 = some (.inl (Z.2 2, 744, .inl (fun _ => 0))) := by rw [← eG42]; exact gup_new hn42 f36_q26
  have f42_q34 : G42 q34 = some (.inl (Z.2 2, 24, .inl (fun _ => 0))) := by rw [← eG42]; exact gup_new hn42 f36_q34
  have f42_h : G42 h = some (.inr (4, [.int 0, .int 0, .int 0, .ref q8, .ref q17, .ref q26, .ref q34, .null, .int 0, .int 0, .null, .int 0, .null])) := by rw [← eG42]; exact gup_new hn42 f36
  have f42 : G42 q42 = some (.inl (Z.2 1, 24, .inl (fun _ => 0))) := by rw [← eG42]; exact gup_self _ _ _
  have hK : gKe (fun q => q = h) G G42 := by rw [← eG42]; exact hK.new hn42
  refine g_putF S hE.1 hG f42_h rfl in_mo ty_mo tyok_mo nm_mo 7 (by decide) tw_498 (fun _ h9 => h9) rfl hin rfl (ty := (.array .int)) (by decide +kernel) rfl rfl (Nat.le_of_ble_eq_true rfl) d_mo_init_44 (fun H locs hG => ?_)
  have hG : gS (gA G s.heap.size) s.heap Z.1 cls (gup G42 h (.inr (4, [.int 0, .int 0, .int 0, .ref q8, .ref q17, .ref q26, .ref q34, .ref q42, .int 0, .int 0, .null, .int 0, .null]))) H locs := hG
  generalize eG44 : gup G42 h (.inr (4, [.int 0, .int 0, .int 0, .ref q8, .ref q17, .ref q26, .ref q34, .ref q42, .int 0, .int 0, .null, .int 0, .null])) = G44 at hG
  have f44_q8 : G44 q8 = some (.inl (Z.2 1, 768, .inl (fun _ => 0))) := by rw [← eG44]; exact gup_keep f42_h f42_q8 (by simp)
  have f44_q17 : G44 q17 = some (.inl (Z.2 2, 768, .inl (fun _ => 0))) := by rw [← eG44]; exact gup_keep f42_h f42_q17 (by simp)
  have f44_q26 : G44 q26 = some (.inl (Z.2 2, 744, .inl (fun _ => 0))) := by rw [← eG44]; exact gup_keep f42_h f42_q26 (by simp)
  have f44_q34 : G44 q34 = some (.inl (Z.2 2, 24, .inl (fun _ => 0))) := by rw [← eG44]; exact gup_keep f42_h f42_q34 (by simp)
  have f44_q42 : G44 q42 = some (.inl (Z.2 1, 24, .inl (fun _ => 0))) := by rw [← eG44]; exact gup_keep f42_h f42 (by simp)
  have f44 : G44 h = some (.inr (4, [.int 0, .int 0, .int 0, .ref q8, .ref q17, .ref q26, .ref q34, .ref q42, .int 0, .int 0, .null, .int 0, .null])) := by rw [← eG44]; exact gup_self _ _ _
  have hK : gKe (fun q => q = h) G G44 := by rw [← eG44]; exact hK.up (by simp)
  refine lv_aload_n hx hb d_mo_init_47 rfl (lv_at hl 0 rfl) ?_
  refine lv_bipush (v := nI 16) hx hb d_mo_init_48 (by decide) ?_
  have hK50 := hK
  refine g_newa (atype := .boolean) (ty := .boolean) (N' := 16) (a0 := (16, .inl (fun _ => 0))) S hE.1 hG tw_532 rfl 2 rfl (fun h => h) (fun cA => rfl) (by decide) (by decide) (by decide) (Nat.le_of_ble_eq_true rfl) (Nat.le_of_ble_eq_true rfl) d_mo_init_50 (fun q50 H hq50 hn50 hG => ?_)
  have hG : gS (gA G s.heap.size) s.heap Z.1 cls (gup G44 q50 (.inl (Z.2 2, 16, .inl (fun _ => 0)))) H _ := hG
  generalize eG50 : gup G44 q50 (.inl (Z.2 2, 16, .inl (fun _ => 0))) = G50 at hG
  have f50_q8 : G50 q8 = some (.inl (Z.2 1, 768, .inl (fun _ => 0))) := by rw [← eG50]; exact gup_new hn50 f44_q8
  have f50_q17 : G50 q17 = some (.inl (Z.2 2, 768, .inl (fun _ => 0))) := by rw [← eG50]; exact gup_new hn50 f44_q17
  have f50_q26 : G50 q26 = some (.inl (Z.2 2, 744, .inl (fun _ => 0))) := by rw [← eG50]; exact gup_new hn50 f44_q26
  have f50_q34 : G50 q34 = some (.inl (Z.2 2, 24, .inl (fun _ => 0))) := by rw [← eG50]; exact gup_new hn50 f44_q34
  have f50_q42 : G50 q42 = some (.inl (Z.2 1, 24, .inl (fun _ => 0))) := by rw [← eG50]; exact gup_new hn50 f44_q42
  have f50_h : G50 h = some (.inr (4, [.int 0, .int 0, .int 0, .ref q8, .ref q17, .ref q26, .ref q34, .ref q42, .int 0, .int 0, .null, .int 0, .null])) := by rw [← eG50]; exact gup_new hn50 f44
  have f50 : G50 q50 = some (.inl (Z.2 2, 16, .inl (fun _ => 0))) := by rw [← eG50]; exact gup_self _ _ _
  have hK : gKe (fun q => q = h) G G50 := by rw [← eG50]; exact hK.new hn50
  refine g_putF S hE.1 hG f50_h rfl in_mo ty_mo tyok_mo nm_mo 10 (by decide) tw_501 (fun _ h9 => h9) rfl hin rfl (ty := (.array .boolean)) (by decide +kernel) rfl rfl (Nat.le_of_ble_eq_true rfl) d_mo_init_52 (fun H locs hG => ?_)
  have hG : gS (gA G s.heap.size) s.heap Z.1 cls (gup G50 h (.inr (4, [.int 0, .int 0, .int 0, .ref q8, .ref q17, .ref q26, .ref q34, .ref q42, .int 0, .int 0, .ref q50, .int 0, .null]))) H locs := hG
  generalize eG52 : gup G50 h (.inr (4, [.int 0, .int 0, .int 0, .ref q8, .ref q17, .ref q26, .ref q34, .ref q42, .int 0, .int 0, .ref q50, .int 0, .null])) = G52 at hG
  have f52_q8 : G52 q8 = some (.inl (Z.2 1, 768, .inl (fun _ => 0))) := by rw [← eG52]; exact gup_keep f50_h f50_q8 (by simp)
  have f52_q17 : G52 q17 = some (.inl (Z.2 2, 768, .inl (fun _ => 0))) := by rw [← eG52]; exact gup_keep f50_h f50_q17 (by simp)
  have f52_q26 : G52 q26 = some (.inl (Z.2 2, 744, .inl (fun _ => 0))) := by rw [← eG52]; exact gup_keep f50_h f50_q26 (by simp)
  have f52_q34 : G52 q34 = some (.inl (Z.2 2, 24, .inl (fun _ => 0))) := by rw [← eG52]; exact gup_keep f50_h f50_q34 (by simp)
  have f52_q42 : G52 q42 = some (.inl (Z.2 1, 24, .inl (fun _ => 0))) := by rw [← eG52]; exact gup_keep f50_h f50_q42 (by simp)
  have f52_q50 : G52 q50 = some (.inl (Z.2 2, 16, .inl (fun _ => 0))) := by rw [← eG52]; exact gup_keep f50_h f50 (by simp)
  have f52 : G52 h = some (.inr (4, [.int 0, .int 0, .int 0, .ref q8, .ref q17, .ref q26, .ref q34, .ref q42, .int 0, .int 0, .ref q50, .int 0, .null])) := by rw [← eG52]; exact gup_self _ _ _
  have hK : gKe (fun q => q = h) G G52 := by rw [← eG52]; exact hK.up (by simp)
  refine lv_aload_n hx hb d_mo_init_55 rfl (lv_at hl 0 rfl) ?_
  refine lv_bipush (v := nI 16) hx hb d_mo_init_56 (by decide) ?_
  have hK58 := hK
  refine g_newa (atype := .int) (ty := .int) (N' := 16) (a0 := (16, .inl (fun _ => 0))) S hE.1 hG tw_531 rfl 1 rfl (fun h => h) (fun cA => rfl) (by decide) (by decide) (by decide) (Nat.le_of_ble_eq_true rfl) (Nat.le_of_ble_eq_true rfl) d_mo_init_58 (fun q58 H hq58 hn58 hG => ?_)
  have hG : gS (gA G s.heap.size) s.heap Z.1 cls (gup G52 q58 (.inl (Z.2 1, 16, .inl (fun _ => 0)))) H _ := hG
  generalize eG58 : gup G52 q58 (.inl (Z.2 1, 16, .inl (fun _ => 0))) = G58 at hG
  have f58_q8 : G58 q8 = some (.inl (Z.2 1, 768, .inl (fun _ => 0))) := by rw [← eG58]; exact gup_new hn58 f52_q8
  have f58_q17 : G58 q17 = some (.inl (Z.2 2, 768, .inl (fun _ => 0))) := by rw [← eG58]; exact gup_new hn58 f52_q17
  have f58_q26 : G58 q26 = some (.inl (Z.2 2, 744, .inl (fun _ => 0))) := by rw [← eG58]; exact gup_new hn58 f52_q26
  have f58_q34 : G58 q34 = some (.inl (Z.2 2, 24, .inl (fun _ => 0))) := by rw [← eG58]; exact gup_new hn58 f52_q34
  have f58_q42 : G58 q42 = some (.inl (Z.2 1, 24, .inl (fun _ => 0))) := by rw [← eG58]; exact gup_new hn58 f52_q42
  have f58_q50 : G58 q50 = some (.inl (Z.2 2, 16, .inl (fun _ => 0))) := by rw [← eG58]; exact gup_new hn58 f52_q50
  have f58_h : G58 h = some (.inr (4, [.int 0, .int 0, .int 0, .ref q8, .ref q17, .ref q26, .ref q34, .ref q42, .int 0, .int 0, .ref q50, .int 0, .null])) := by rw [← eG58]; exact gup_new hn58 f52
  have f58 : G58 q58 = some (.inl (Z.2 1, 16, .inl (fun _ => 0))) := by rw [← eG58]; exact gup_self _ _ _
  have hK : gKe (fun q => q = h) G G58 := by rw [← eG58]; exact hK.new hn58
  refine g_putF S hE.1 hG f58_h rfl in_mo ty_mo tyok_mo nm_mo 12 (by decide) tw_503 (fun _ h9 => h9) rfl hin rfl (ty := (.array .int)) (by decide +kernel) rfl rfl (Nat.le_of_ble_eq_true rfl) d_mo_init_60 (fun H locs hG => ?_)
  have hG : gS (gA G s.heap.size) s.heap Z.1 cls (gup G58 h (.inr (4, [.int 0, .int 0, .int 0, .ref q8, .ref q17, .ref q26, .ref q34, .ref q42, .int 0, .int 0, .ref q50, .int 0, .ref q58]))) H locs := hG
  generalize eG60 : gup G58 h (.inr (4, [.int 0, .int 0, .int 0, .ref q8, .ref q17, .ref q26, .ref q34, .ref q42, .int 0, .int 0, .ref q50, .int 0, .ref q58])) = G60 at hG
  have f60_q8 : G60 q8 = some (.inl (Z.2 1, 768, .inl (fun _ => 0))) := by rw [← eG60]; exact gup_keep f58_h f58_q8 (by simp)
  have f60_q17 : G60 q17 = some (.inl (Z.2 2, 768, .inl (fun _ => 0))) := by rw [← eG60]; exact gup_keep f58_h f58_q17 (by simp)
  have f60_q26 : G60 q26 = some (.inl (Z.2 2, 744, .inl (fun _ => 0))) := by rw [← eG60]; exact gup_keep f58_h f58_q26 (by simp)
  have f60_q34 : G60 q34 = some (.inl (Z.2 2, 24, .inl (fun _ => 0))) := by rw [← eG60]; exact gup_keep f58_h f58_q34 (by simp)
  have f60_q42 : G60 q42 = some (.inl (Z.2 1, 24, .inl (fun _ => 0))) := by rw [← eG60]; exact gup_keep f58_h f58_q42 (by simp)
  have f60_q50 : G60 q50 = some (.inl (Z.2 2, 16, .inl (fun _ => 0))) := by rw [← eG60]; exact gup_keep f58_h f58_q50 (by simp)
  have f60_q58 : G60 q58 = some (.inl (Z.2 1, 16, .inl (fun _ => 0))) := by rw [← eG60]; exact gup_keep f58_h f58 (by simp)
  have f60 : G60 h = some (.inr (4, [.int 0, .int 0, .int 0, .ref q8, .ref q17, .ref q26, .ref q34, .ref q42, .int 0, .int 0, .ref q50, .int 0, .ref q58])) := by rw [← eG60]; exact gup_self _ _ _
  have hK : gKe (fun q => q = h) G G60 := by rw [← eG60]; exact hK.up (by simp)
  refine lv_aload_n hx hb d_mo_init_63 rfl (lv_at hl 0 rfl) ?_
  refine lv_iload_n hx hb d_mo_init_64 rfl (lv_at hl 1 rfl) ?_
  refine lv_iconst (v := 1) hx hb d_mo_init_65 (by decide) ?_
  refine lv_icmp_ge (tgt := 73) hx hb d_mo_init_66 (by decide) (fun c66 => ?_) (fun c66 => ?_)
  · refine lv_iload_n hx hb d_mo_init_73 rfl (lv_at hl 1 rfl) ?_
    refine lv_iconst (v := 4) hx hb d_mo_init_74 (by decide) ?_
    refine lv_icmp_le (tgt := 82) hx hb d_mo_init_75 (by decide) (fun c75 => ?_) (fun c75 => ?_)
    · refine lv_iload_n hx hb d_mo_init_82 rfl (lv_at hl 1 rfl) ?_
      refine g_topi (y := nI C) (by rw [← hC0, ← cla_m (by decide)]; first | rw [if_neg c66] | rw [if_pos c66, if_pos c75] | rw [if_pos c66, if_neg c75]) ?_
      refine g_putF S hE.1 hG f60 rfl in_mo ty_mo tyok_mo nm_mo 1 (by decide) tw_492 (fun _ h9 => h9) rfl hin rfl (ty := .int) (by decide +kernel) rfl rfl (Nat.le_of_ble_eq_true rfl) d_mo_init_83 (fun H locs hG => ?_)
      have hG : gS (gA G s.heap.size) s.heap Z.1 cls (gup G60 h (.inr (4, [.int 0, .int (nI C), .int 0, .ref q8, .ref q17, .ref q26, .ref q34, .ref q42, .int 0, .int 0, .ref q50, .int 0, .ref q58]))) H locs := hG
      generalize eG83 : gup G60 h (.inr (4, [.int 0, .int (nI C), .int 0, .ref q8, .ref q17, .ref q26, .ref q34, .ref q42, .int 0, .int 0, .ref q50, .int 0, .ref q58])) = G83 at hG
      have f83_q8 : G83 q8 = some (.inl (Z.2 1, 768, .inl (fun _ => 0))) := by rw [← eG83]; exact gup_keep f60 f60_q8 (by simp)
      have f83_q17 : G83 q17 = some (.inl (Z.2 2, 768, .inl (fun _ => 0))) := by rw [← eG83]; exact gup_keep f60 f60_q17 (by simp)
      have f83_q26 : G83 q26 = some (.inl (Z.2 2, 744, .inl (fun _ => 0))) := by rw [← eG83]; exact gup_keep f60 f60_q26 (by simp)
      have f83_q34 : G83 q34 = some (.inl (Z.2 2, 24, .inl (fun _ => 0))) := by rw [← eG83]; exact gup_keep f60 f60_q34 (by simp)
      have f83_q42 : G83 q42 = some (.inl (Z.2 1, 24, .inl (fun _ => 0))) := by rw [← eG83]; exact gup_keep f60 f60_q42 (by simp)
      have f83_q50 : G83 q50 = some (.inl (Z.2 2, 16, .inl (fun _ => 0))) := by rw [← eG83]; exact gup_keep f60 f60_q50 (by simp)
      have f83_q58 : G83 q58 = some (.inl (Z.2 1, 16, .inl (fun _ => 0))) := by rw [← eG83]; exact gup_keep f60 f60_q58 (by simp)
      have f83 : G83 h = some (.inr (4, [.int 0, .int (nI C), .int 0, .ref q8, .ref q17, .ref q26, .ref q34, .ref q42, .int 0, .int 0, .ref q50, .int 0, .ref q58])) := by rw [← eG83]; exact gup_self _ _ _
      have hK : gKe (fun q => q = h) G G83 := by rw [← eG83]; exact hK.up (by simp)
      refine lv_aload_n hx hb d_mo_init_86 rfl (lv_at hl 0 rfl) ?_
      refine lv_iload_n hx hb d_mo_init_87 rfl (lv_at hl 2 rfl) ?_
      refine lv_iconst (v := 1) hx hb d_mo_init_88 (by decide) ?_
      refine lv_icmp_ge (tgt := 96) hx hb d_mo_init_89 (by decide) (fun c89 => ?_) (fun c89 => ?_)
      · refine lv_iload_n hx hb d_mo_init_96 rfl (lv_at hl 2 rfl) ?_
        refine lv_bipush (v := 8) hx hb d_mo_init_97 (by decide) ?_
        refine lv_icmp_le (tgt := 107) hx hb d_mo_init_99 (by decide) (fun c99 => ?_) (fun c99 => ?_)
        · refine lv_iload_n hx hb d_mo_init_107 rfl (lv_at hl 2 rfl) ?_
          refine g_topi (y := nI E) (by rw [← hE0, ← cla_m (by decide)]; first | rw [if_neg c89] | rw [if_pos c89, if_pos c99] | rw [if_pos c89, if_neg c99]) ?_
          refine g_putF S hE.1 hG f83 rfl in_mo ty_mo tyok_mo nm_mo 2 (by decide) tw_493 (fun _ h9 => h9) rfl hin rfl (ty := .int) (by decide +kernel) rfl rfl (Nat.le_of_ble_eq_true rfl) d_mo_init_108 (fun H locs hG => ?_)
          have hG : gS (gA G s.heap.size) s.heap Z.1 cls (gup G83 h (.inr (4, [.int 0, .int (nI C), .int (nI E), .ref q8, .ref q17, .ref q26, .ref q34, .ref q42, .int 0, .int 0, .ref q50, .int 0, .ref q58]))) H locs := hG
          generalize eG108 : gup G83 h (.inr (4, [.int 0, .int (nI C), .int (nI E), .ref q8, .ref q17, .ref q26, .ref q34, .ref q42, .int 0, .int 0, .ref q50, .int 0, .ref q58])) = G108 at hG
          have f108_q8 : G108 q8 = some (.inl (Z.2 1, 768, .inl (fun _ => 0))) := by rw [← eG108]; exact gup_keep f83 f83_q8 (by simp)
          have f108_q17 : G108 q17 = some (.inl (Z.2 2, 768, .inl (fun _ => 0))) := by rw [← eG108]; exact gup_keep f83 f83_q17 (by simp)
          have f108_q26 : G108 q26 = some (.inl (Z.2 2, 744, .inl (fun _ => 0))) := by rw [← eG108]; exact gup_keep f83 f83_q26 (by simp)
          have f108_q34 : G108 q34 = some (.inl (Z.2 2, 24, .inl (fun _ => 0))) := by rw [← eG108]; exact gup_keep f83 f83_q34 (by simp)
          have f108_q42 : G108 q42 = some (.inl (Z.2 1, 24, .inl (fun _ => 0))) := by rw [← eG108]; exact gup_keep f83 f83_q42 (by simp)
          have f108_q50 : G108 q50 = some (.inl (Z.2 2, 16, .inl (fun _ => 0))) := by rw [← eG108]; exact gup_keep f83 f83_q50 (by simp)
          have f108_q58 : G108 q58 = some (.inl (Z.2 1, 16, .inl (fun _ => 0))) := by rw [← eG108]; exact gup_keep f83 f83_q58 (by simp)
          have f108 : G108 h = some (.inr (4, [.int 0, .int (nI C), .int (nI E), .ref q8, .ref q17, .ref q26, .ref q34, .ref q42, .int 0, .int 0, .ref q50, .int 0, .ref q58])) := by rw [← eG108]; exact gup_self _ _ _
          have hK : gKe (fun q => q = h) G G108 := by rw [← eG108]; exact hK.up (by simp)
          refine lv_aload_n hx hb d_mo_init_111 rfl (lv_at hl 0 rfl) ?_
          refine lv_bipush (v := nI 8) hx hb d_mo_init_112 (by decide) ?_
          refine g_put S hE.1 hG f108 rfl in_mo ty_mo tyok_mo nm_mo 9 (by decide) tw_500 (fun _ h9 => h9) rfl (ty := .int) (by decide +kernel) rfl rfl (Nat.le_of_ble_eq_true rfl) d_mo_init_114 (fun H locs hG => ?_)
          have hG : gS (gA G s.heap.size) s.heap Z.1 cls (gup G108 h (.inr (4, [.int 0, .int (nI C), .int (nI E), .ref q8, .ref q17, .ref q26, .ref q34, .ref q42, .int 0, .int (nI 8), .ref q50, .int 0, .ref q58]))) H locs := hG
          generalize eG114 : gup G108 h (.inr (4, [.int 0, .int (nI C), .int (nI E), .ref q8, .ref q17, .ref q26, .ref q34, .ref q42, .int 0, .int (nI 8), .ref q50, .int 0, .ref q58])) = G114 at hG
          have f114_q8 : G114 q8 = some (.inl (Z.2 1, 768, .inl (fun _ => 0))) := by rw [← eG114]; exact gup_keep f108 f108_q8 (by simp)
          have f114_q17 : G114 q17 = some (.inl (Z.2 2, 768, .inl (fun _ => 0))) := by rw [← eG114]; exact gup_keep f108 f108_q17 (by simp)
          have f114_q26 : G114 q26 = some (.inl (Z.2 2, 744, .inl (fun _ => 0))) := by rw [← eG114]; exact gup_keep f108 f108_q26 (by simp)
          have f114_q34 : G114 q34 = some (.inl (Z.2 2, 24, .inl (fun _ => 0))) := by rw [← eG114]; exact gup_keep f108 f108_q34 (by simp)
          have f114_q42 : G114 q42 = some (.inl (Z.2 1, 24, .inl (fun _ => 0))) := by rw [← eG114]; exact gup_keep f108 f108_q42 (by simp)
          have f114_q50 : G114 q50 = some (.inl (Z.2 2, 16, .inl (fun _ => 0))) := by rw [← eG114]; exact gup_keep f108 f108_q50 (by simp)
          have f114_q58 : G114 q58 = some (.inl (Z.2 1, 16, .inl (fun _ => 0))) := by rw [← eG114]; exact gup_keep f108 f108_q58 (by simp)
          have f114 : G114 h = some (.inr (4, [.int 0, .int (nI C), .int (nI E), .ref q8, .ref q17, .ref q26, .ref q34, .ref q42, .int 0, .int (nI 8), .ref q50, .int 0, .ref q58])) := by rw [← eG114]; exact gup_self _ _ _
          have hK : gKe (fun q => q = h) G G114 := by rw [← eG114]; exact hK.up (by simp)
          refine lv_aload_n hx hb d_mo_init_117 rfl (lv_at hl 0 rfl) ?_
          refine g_get S hE.1 hG.1 f114 rfl in_mo 10 (by decide) tw_501 (fun _ h9 => h9) rfl d_mo_init_118 ?_
          refine lv_bipush (v := nI 7) hx hb d_mo_init_121 (by decide) ?_
          refine lv_iconst (v := 1) hx hb d_mo_init_123 (by decide) ?_
          refine g_zast S hE.1 hG f114_q50 2 rfl (vp_in_nI (by omega) (by omega)) d_mo_init_124 (fun H locs hG => ?_)
          rw [nI_clamp (show 7 < 2 ^ 31 by omega)] at hG
          have hG : gS (gA G s.heap.size) s.heap Z.1 cls (gup G114 q50 (.inl (Z.2 2, 16, .inl (upd (fun _ => 0) 7 1)))) H locs := hG
          generalize eG124 : gup G114 q50 (.inl (Z.2 2, 16, .inl (upd (fun _ => 0) 7 1))) = G124 at hG
          have f124_q8 : G124 q8 = some (.inl (Z.2 1, 768, .inl (fun _ => 0))) := by rw [← eG124]; exact gup_keep f114_q50 f114_q8 (by simp)
          have f124_q17 : G124 q17 = some (.inl (Z.2 2, 768, .inl (fun _ => 0))) := by rw [← eG124]; exact gup_keep f114_q50 f114_q17 (by simp)
          have f124_q26 : G124 q26 = some (.inl (Z.2 2, 744, .inl (fun _ => 0))) := by rw [← eG124]; exact gup_keep f114_q50 f114_q26 (by simp)
          have f124_q34 : G124 q34 = some (.inl (Z.2 2, 24, .inl (fun _ => 0))) := by rw [← eG124]; exact gup_keep f114_q50 f114_q34 (by simp)
          have f124_q42 : G124 q42 = some (.inl (Z.2 1, 24, .inl (fun _ => 0))) := by rw [← eG124]; exact gup_keep f114_q50 f114_q42 (by simp)
          have f124_q58 : G124 q58 = some (.inl (Z.2 1, 16, .inl (fun _ => 0))) := by rw [← eG124]; exact (gup_ne _ _ (fun e => by rw [e] at hn58; rw [f52_q50] at hn58; cases hn58)).trans f114_q58
          have f124_h : G124 h = some (.inr (4, [.int 0, .int (nI C), .int (nI E), .ref q8, .ref q17, .ref q26, .ref q34, .ref q42, .int 0, .int (nI 8), .ref q50, .int 0, .ref q58])) := by rw [← eG124]; exact gup_keep f114_q50 f114 (by simp)
          have f124 : G124 q50 = some (.inl (Z.2 2, 16, .inl (upd (fun _ => 0) 7 1))) := by rw [← eG124]; exact gup_self _ _ _
          have hK : gKe (fun q => q = h) G G124 := by rw [← eG124]; exact hK.upn (gnoneK2 hK50 hn50 f44)
          refine W.widen (k := 7) (n := 2360) (Nat.le_of_ble_eq_true rfl) (Nat.le_of_ble_eq_true rfl) ?_
          exact (W.vret hx hb hr (fun t9 ht9 hW9 => ⟨⟨_, rfl, ⟨hK, q8, q17, q26, q34, q42, q50, q58, ⟨gnoneK2 hK8 hn8 hp, gnoneK2 hK17 hn17 f10, gnoneK2 hK26 hn26 f19, gnoneK2 hK34 hn34 f28, gnoneK2 hK42 hn42 f36, gnoneK2 hK50 hn50 f44, gnoneK2 hK58 hn58 f52⟩, (fun _ => 0), (fun _ => 0), (fun _ => 0), (fun _ => 0), (fun _ => 0), _, (fun _ => 0), ⟨f124_h, f124_q8, f124_q17, f124_q26, f124_q34, f124_q42, f124, f124_q58, (fun e => by rw [← e] at hn17; rw [f10_q8] at hn17; cases hn17), (fun e => by rw [← e] at hn42; rw [f36_q34] at hn42; cases hn42), (fun e => by rw [← e] at hn58; rw [f52_q50] at hn58; cases hn58)⟩, Sim.start C E _ _ _, simT_8, hC, hE8, Or.inl rfl⟩, by rw [ht9]; exact hG.1, hG.2.1⟩, hG.2.2.1.F ht9⟩) hG.2.2.1.2.2 d_mo_init_125)
        · refine lv_bipush (v := 8) hx hb d_mo_init_102 (by decide) ?_
          refine lv_goto (tgt := 108) hx hb d_mo_init_104 (by decide) ?_
          refine g_topi (y := nI E) (by rw [← hE0, ← cla_m (by decide)]; first | rw [if_neg c89] | rw [if_pos c89, if_pos c99] | rw [if_pos c89, if_neg c99]) ?_
          refine g_putF S hE.1 hG f83 rfl in_mo ty_mo tyok_mo nm_mo 2 (by decide) tw_493 (fun _ h9 => h9) rfl hin rfl (ty := .int) (by decide +kernel) rfl rfl (Nat.le_of_ble_eq_true rfl) d_mo_init_108 (fun H locs hG => ?_)
          have hG : gS (gA G s.heap.size) s.heap Z.1 cls (gup G83 h (.inr (4, [.int 0, .int (nI C), .int (nI E), .ref q8, .ref q17, .ref q26, .ref q34, .ref q42, .int 0, .int 0, .ref q50, .int 0, .ref q58]))) H locs := hG
          generalize eG108 : gup G83 h (.inr (4, [.int 0, .int (nI C), .int (nI E), .ref q8, .ref q17, .ref q26, .ref q34, .ref q42, .int 0, .int 0, .ref q50, .int 0, .ref q58])) = G108 at hG
          have f108_q8 : G108 q8 = some (.inl (Z.2 1, 768, .inl (fun _ => 0))) := by rw [← eG108]; exact gup_keep f83 f83_q8 (by simp)
          have f108_q17 : G108 q17 = some (.inl (Z.2 2, 768, .inl (fun _ => 0))) := by rw [← eG108]; exact gup_keep f83 f83_q17 (by simp)
          have f108_q26 : G108 q26 = some (.inl (Z.2 2, 744, .inl (fun _ => 0))) := by rw [← eG108]; exact gup_keep f83 f83_q26 (by simp)
          have f108_q34 : G108 q34 = some (.inl (Z.2 2, 24, .inl (fun _ => 0))) := by rw [← eG108]; exact gup_keep f83 f83_q34 (by simp)
          have f108_q42 : G108 q42 = some (.inl (Z.2 1, 24, .inl (fun _ => 0))) := by rw [← eG108]; exact gup_keep f83 f83_q42 (by simp)
          have f108_q50 : G108 q50 = some (.inl (Z.2 2, 16, .inl (fun _ => 0))) := by rw [← eG108]; exact gup_keep f83 f83_q50 (by simp)
          have f108_q58 : G108 q58 = some (.inl (Z.2 1, 16, .inl (fun _ => 0))) := by rw [← eG108]; exact gup_keep f83 f83_q58 (by simp)
          have f108 : G108 h = some (.inr (4, [.int 0, .int (nI C), .int (nI E), .ref q8, .ref q17, .ref q26, .ref q34, .ref q42, .int 0, .int 0, .ref q50, .int 0, .ref q58])) := by rw [← eG108]; exact gup_self _ _ _
          have hK : gKe (fun q => q = h) G G108 := by rw [← eG108]; exact hK.up (by simp)
          refine lv_aload_n hx hb d_mo_init_111 rfl (lv_at hl 0 rfl) ?_
          refine lv_bipush (v := nI 8) hx hb d_mo_init_112 (by decide) ?_
          refine g_put S hE.1 hG f108 rfl in_mo ty_mo tyok_mo nm_mo 9 (by decide) tw_500 (fun _ h9 => h9) rfl (ty := .int) (by decide +kernel) rfl rfl (Nat.le_of_ble_eq_true rfl) d_mo_init_114 (fun H locs hG => ?_)
          have hG : gS (gA G s.heap.size) s.heap Z.1 cls (gup G108 h (.inr (4, [.int 0, .int (nI C), .int (nI E), .ref q8, .ref q17, .ref q26, .ref q34, .ref q42, .int 0, .int (nI 8), .ref q50, .int 0, .ref q58]))) H locs := hG
          generalize eG114 : gup G108 h (.inr (4, [.int 0, .int (nI C), .int (nI E), .ref q8, .ref q17, .ref q26, .ref q34, .ref q42, .int 0, .int (nI 8), .ref q50, .int 0, .ref q58])) = G114 at hG
          have f114_q8 : G114 q8 = some (.inl (Z.2 1, 768, .inl (fun _ => 0))) := by rw [← eG114]; exact gup_keep f108 f108_q8 (by simp)
          have f114_q17 : G114 q17 = some (.inl (Z.2 2, 768, .inl (fun _ => 0))) := by rw [← eG114]; exact gup_keep f108 f108_q17 (by simp)
          have f114_q26 : G114 q26 = some (.inl (Z.2 2, 744, .inl (fun _ => 0))) := by rw [← eG114]; exact gup_keep f108 f108_q26 (by simp)
          have f114_q34 : G114 q34 = some (.inl (Z.2 2, 24, .inl (fun _ => 0))) := by rw [← eG114]; exact gup_keep f108 f108_q34 (by simp)
          have f114_q42 : G114 q42 = some (.inl (Z.2 1, 24, .inl (fun _ => 0))) := by rw [← eG114]; exact gup_keep f108 f108_q42 (by simp)
          have f114_q50 : G114 q50 = some (.inl (Z.2 2, 16, .inl (fun _ => 0))) := by rw [← eG114]; exact gup_keep f108 f108_q50 (by simp)
          have f114_q58 : G114 q58 = some (.inl (Z.2 1, 16, .inl (fun _ => 0))) := by rw [← eG114]; exact gup_keep f108 f108_q58 (by simp)
          have f114 : G114 h = some (.inr (4, [.int 0, .int (nI C), .int (nI E), .ref q8, .ref q17, .ref q26, .ref q34, .ref q42, .int 0, .int (nI 8), .ref q50, .int 0, .ref q58])) := by rw [← eG114]; exact gup_self _ _ _
          have hK : gKe (fun q => q = h) G G114 := by rw [← eG114]; exact hK.up (by simp)
          refine lv_aload_n hx hb d_mo_init_117 rfl (lv_at hl 0 rfl) ?_
          refine g_get S hE.1 hG.1 f114 rfl in_mo 10 (by decide) tw_501 (fun _ h9 => h9) rfl d_mo_init_118 ?_
          refine lv_bipush (v := nI 7) hx hb d_mo_init_121 (by decide) ?_
          refine lv_iconst (v := 1) hx hb d_mo_init_123 (by decide) ?_
          refine g_zast S hE.1 hG f114_q50 2 rfl (vp_in_nI (by omega) (by omega)) d_mo_init_124 (fun H locs hG => ?_)
          rw [nI_clamp (show 7 < 2 ^ 31 by omega)] at hG
          have hG : gS (gA G s.heap.size) s.heap Z.1 cls (gup G114 q50 (.inl (Z.2 2, 16, .inl (upd (fun _ => 0) 7 1)))) H locs := hG
          generalize eG124 : gup G114 q50 (.inl (Z.2 2, 16, .inl (upd (fun _ => 0) 7 1))) = G124 at hG
          have f124_q8 : G124 q8 = some (.inl (Z.2 1, 768, .inl (fun _ => 0))) := by rw [← eG124]; exact gup_keep f114_q50 f114_q8 (by simp)
          have f124_q17 : G124 q17 = some (.inl (Z.2 2, 768, .inl (fun _ => 0))) := by rw [← eG124]; exact gup_keep f114_q50 f114_q17 (by simp)
          have f124_q26 : G124 q26 = some (.inl (Z.2 2, 744, .inl (fun _ => 0))) := by rw [← eG124]; exact gup_keep f114_q50 f114_q26 (by simp)
          have f124_q34 : G124 q34 = some (.inl (Z.2 2, 24, .inl (fun _ => 0))) := by rw [← eG124]; exact gup_keep f114_q50 f114_q34 (by simp)
          have f124_q42 : G124 q42 = some (.inl (Z.2 1, 24, .inl (fun _ => 0))) := by rw [← eG124]; exact gup_keep f114_q50 f114_q42 (by simp)
          have f124_q58 : G124 q58 = some (.inl (Z.2 1, 16, .inl (fun _ => 0))) := by rw [← eG124]; exact (gup_ne _ _ (fun e => by rw [e] at hn58; rw [f52_q50] at hn58; cases hn58)).trans f114_q58
          have f124_h : G124 h = some (.inr (4, [.int 0, .int (nI C), .int (nI E), .ref q8, .ref q17, .ref q26, .ref q34, .ref q42, .int 0, .int (nI 8), .ref q50, .int 0, .ref q58])) := by rw [← eG124]; exact gup_keep f114_q50 f114 (by simp)
          have f124 : G124 q50 = some (.inl (Z.2 2, 16, .inl (upd (fun _ => 0) 7 1))) := by rw [← eG124]; exact gup_self _ _ _
          have hK : gKe (fun q => q = h) G G124 := by rw [← eG124]; exact hK.upn (gnoneK2 hK50 hn50 f44)
          refine W.widen (k := 7) (n := 2360) (Nat.le_of_ble_eq_true rfl) (Nat.le_of_ble_eq_true rfl) ?_
          exact (W.vret hx hb hr (fun t9 ht9 hW9 => ⟨⟨_, rfl, ⟨hK, q8, q17, q26, q34, q42, q50, q58, ⟨gnoneK2 hK8 hn8 hp, gnoneK2 hK17 hn17 f10, gnoneK2 hK26 hn26 f19, gnoneK2 hK34 hn34 f28, gnoneK2 hK42 hn42 f36, gnoneK2 hK50 hn50 f44, gnoneK2 hK58 hn58 f52⟩, (fun _ => 0), (fun _ => 0), (fun _ => 0), (fun _ => 0), (fun _ => 0), _, (fun _ => 0), ⟨f124_h, f124_q8, f124_q17, f124_q26, f124_q34, f124_q42, f124, f124_q58, (fun e => by rw [← e] at hn17; rw [f10_q8] at hn17; cases hn17), (fun e => by rw [← e] at hn42; rw [f36_q34] at hn42; cases hn42), (fun e => by rw [← e] at hn58; rw [f52_q50] at hn58; cases hn58)⟩, Sim.start C E _ _ _, simT_8, hC, hE8, Or.inl rfl⟩, by rw [ht9]; exact hG.1, hG.2.1⟩, hG.2.2.1.F ht9⟩) hG.2.2.1.2.2 d_mo_init_125)
      · refine lv_iconst (v := 1) hx hb d_mo_init_92 (by decide) ?_
        refine lv_goto (tgt := 108) hx hb d_mo_init_93 (by decide) ?_
        refine g_topi (y := nI E) (by rw [← hE0, ← cla_m (by decide)]; first | rw [if_neg c89] | rw [if_pos c89, if_pos c99] | rw [if_pos c89, if_neg c99]) ?_
        refine g_putF S hE.1 hG f83 rfl in_mo ty_mo tyok_mo nm_mo 2 (by decide) tw_493 (fun _ h9 => h9) rfl hin rfl (ty := .int) (by decide +kernel) rfl rfl (Nat.le_of_ble_eq_true rfl) d_mo_init_108 (fun H locs hG => ?_)
        have hG : gS (gA G s.heap.size) s.heap Z.1 cls (gup G83 h (.inr (4, [.int 0, .int (nI C), .int (nI E), .ref q8, .ref q17, .ref q26, .ref q34, .ref q42, .int 0, .int 0, .ref q50, .int 0, .ref q58]))) H locs := hG
        generalize eG108 : gup G83 h (.inr (4, [.int 0, .int (nI C), .int (nI E), .ref q8, .ref q17, .ref q26, .ref q34, .ref q42, .int 0, .int 0, .ref q50, .int 0, .ref q58])) = G108 at hG
        have f108_q8 : G108 q8 = some (.inl (Z.2 1, 768, .inl (fun _ => 0))) := by rw [← eG108]; exact gup_keep f83 f83_q8 (by simp)
        have f108_q17 : G108 q17 = some (.inl (Z.2 2, 768, .inl (fun _ => 0))) := by rw [← eG108]; exact gup_keep f83 f83_q17 (by simp)
        have f108_q26 : G108 q26 = some (.inl (Z.2 2, 744, .inl (fun _ => 0))) := by rw [← eG108]; exact gup_keep f83 f83_q26 (by simp)
        have f108_q34 : G108 q34 = some (.inl (Z.2 2, 24, .inl (fun _ => 0))) := by rw [← eG108]; exact gup_keep f83 f83_q34 (by simp)
        have f108_q42 : G108 q42 = some (.inl (Z.2 1, 24, .inl (fun _ => 0))) := by rw [← eG108]; exact gup_keep f83 f83_q42 (by simp)
        have f108_q50 : G108 q50 = some (.inl (Z.2 2, 16, .inl (fun _ => 0))) := by rw [← eG108]; exact gup_keep f83 f83_q50 (by simp)
        have f108_q58 : G108 q58 = some (.inl (Z.2 1, 16, .inl (fun _ => 0))) := by rw [← eG108]; exact gup_keep f83 f83_q58 (by simp)
        have f108 : G108 h = some (.inr (4, [.int 0, .int (nI C), .int (nI E), .ref q8, .ref q17, .ref q26, .ref q34, .ref q42, .int 0, .int 0, .ref q50, .int 0, .ref q58])) := by rw [← eG108]; exact gup_self _ _ _
        have hK : gKe (fun q => q = h) G G108 := by rw [← eG108]; exact hK.up (by simp)
        refine lv_aload_n hx hb d_mo_init_111 rfl (lv_at hl 0 rfl) ?_
        refine lv_bipush (v := nI 8) hx hb d_mo_init_112 (by decide) ?_
        refine g_put S hE.1 hG f108 rfl in_mo ty_mo tyok_mo nm_mo 9 (by decide) tw_500 (fun _ h9 => h9) rfl (ty := .int) (by decide +kernel) rfl rfl (Nat.le_of_ble_eq_true rfl) d_mo_init_114 (fun H locs hG => ?_)
        have hG : gS (gA G s.heap.size) s.heap Z.1 cls (gup G108 h (.inr (4, [.int 0, .int (nI C), .int (nI E), .ref q8, .ref q17, .ref q26, .ref q34, .ref q42, .int 0, .int (nI 8), .ref q50, .int 0, .ref q58]))) H locs := hG
        generalize eG114 : gup G108 h (.inr (4, [.int 0, .int (nI C), .int (nI E), .ref q8, .ref q17, .ref q26, .ref q34, .ref q42, .int 0, .int (nI 8), .ref q50, .int 0, .ref q58])) = G114 at hG
        have f114_q8 : G114 q8 = some (.inl (Z.2 1, 768, .inl (fun _ => 0))) := by rw [← eG114]; exact gup_keep f108 f108_q8 (by simp)
        have f114_q17 : G114 q17 = some (.inl (Z.2 2, 768, .inl (fun _ => 0))) := by rw [← eG114]; exact gup_keep f108 f108_q17 (by simp)
        have f114_q26 : G114 q26 = some (.inl (Z.2 2, 744, .inl (fun _ => 0))) := by rw [← eG114]; exact gup_keep f108 f108_q26 (by simp)
        have f114_q34 : G114 q34 = some (.inl (Z.2 2, 24, .inl (fun _ => 0))) := by rw [← eG114]; exact gup_keep f108 f108_q34 (by simp)
        have f114_q42 : G114 q42 = some (.inl (Z.2 1, 24, .inl (fun _ => 0))) := by rw [← eG114]; exact gup_keep f108 f108_q42 (by simp)
        have f114_q50 : G114 q50 = some (.inl (Z.2 2, 16, .inl (fun _ => 0))) := by rw [← eG114]; exact gup_keep f108 f108_q50 (by simp)
        have f114_q58 : G114 q58 = some (.inl (Z.2 1, 16, .inl (fun _ => 0))) := by rw [← eG114]; exact gup_keep f108 f108_q58 (by simp)
        have f114 : G114 h = some (.inr (4, [.int 0, .int (nI C), .int (nI E), .ref q8, .ref q17, .ref q26, .ref q34, .ref q42, .int 0, .int (nI 8), .ref q50, .int 0, .ref q58])) := by rw [← eG114]; exact gup_self _ _ _
        have hK : gKe (fun q => q = h) G G114 := by rw [← eG114]; exact hK.up (by simp)
        refine lv_aload_n hx hb d_mo_init_117 rfl (lv_at hl 0 rfl) ?_
        refine g_get S hE.1 hG.1 f114 rfl in_mo 10 (by decide) tw_501 (fun _ h9 => h9) rfl d_mo_init_118 ?_
        refine lv_bipush (v := nI 7) hx hb d_mo_init_121 (by decide) ?_
        refine lv_iconst (v := 1) hx hb d_mo_init_123 (by decide) ?_
        refine g_zast S hE.1 hG f114_q50 2 rfl (vp_in_nI (by omega) (by omega)) d_mo_init_124 (fun H locs hG => ?_)
        rw [nI_clamp (show 7 < 2 ^ 31 by omega)] at hG
        have hG : gS (gA G s.heap.size) s.heap Z.1 cls (gup G114 q50 (.inl (Z.2 2, 16, .inl (upd (fun _ => 0) 7 1)))) H locs := hG
        generalize eG124 : gup G114 q50 (.inl (Z.2 2, 16, .inl (upd (fun _ => 0) 7 1))) = G124 at hG
        have f124_q8 : G124 q8 = some (.inl (Z.2 1, 768, .inl (fun _ => 0))) := by rw [← eG124]; exact gup_keep f114_q50 f114_q8 (by simp)
        have f124_q17 : G124 q17 = some (.inl (Z.2 2, 768, .inl (fun _ => 0))) := by rw [← eG124]; exact gup_keep f114_q50 f114_q17 (by simp)
        have f124_q26 : G124 q26 = some (.inl (Z.2 2, 744, .inl (fun _ => 0))) := by rw [← eG124]; exact gup_keep f114_q50 f114_q26 (by simp)
        have f124_q34 : G124 q34 = some (.inl (Z.2 2, 24, .inl (fun _ => 0))) := by rw [← eG124]; exact gup_keep f114_q50 f114_q34 (by simp)
        have f124_q42 : G124 q42 = some (.inl (Z.2 1, 24, .inl (fun _ => 0))) := by rw [← eG124]; exact gup_keep f114_q50 f114_q42 (by simp)
        have f124_q58 : G124 q58 = some (.inl (Z.2 1, 16, .inl (fun _ => 0))) := by rw [← eG124]; exact (gup_ne _ _ (fun e => by rw [e] at hn58; rw [f52_q50] at hn58; cases hn58)).trans f114_q58
        have f124_h : G124 h = some (.inr (4, [.int 0, .int (nI C), .int (nI E), .ref q8, .ref q17, .ref q26, .ref q34, .ref q42, .int 0, .int (nI 8), .ref q50, .int 0, .ref q58])) := by rw [← eG124]; exact gup_keep f114_q50 f114 (by simp)
        have f124 : G124 q50 = some (.inl (Z.2 2, 16, .inl (upd (fun _ => 0) 7 1))) := by rw [← eG124]; exact gup_self _ _ _
        have hK : gKe (fun q => q = h) G G124 := by rw [← eG124]; exact hK.upn (gnoneK2 hK50 hn50 f44)
        refine W.widen (k := 7) (n := 2360) (Nat.le_of_ble_eq_true rfl) (Nat.le_of_ble_eq_true rfl) ?_
        exact (W.vret hx hb hr (fun t9 ht9 hW9 => ⟨⟨_, rfl, ⟨hK, q8, q17, q26, q34, q42, q50, q58, ⟨gnoneK2 hK8 hn8 hp, gnoneK2 hK17 hn17 f10, gnoneK2 hK26 hn26 f19, gnoneK2 hK34 hn34 f28, gnoneK2 hK42 hn42 f36, gnoneK2 hK50 hn50 f44, gnoneK2 hK58 hn58 f52⟩, (fun _ => 0), (fun _ => 0), (fun _ => 0), (fun _ => 0), (fun _ => 0), _, (fun _ => 0), ⟨f124_h, f124_q8, f124_q17, f124_q26, f124_q34, f124_q42, f124, f124_q58, (fun e => by rw [← e] at hn17; rw [f10_q8] at hn17; cases hn17), (fun e => by rw [← e] at hn42; rw [f36_q34] at hn42; cases hn42), (fun e => by rw [← e] at hn58; rw [f52_q50] at hn58; cases hn58)⟩, Sim.start C E _ _ _, simT_8, hC, hE8, Or.inl rfl⟩, by rw [ht9]; exact hG.1, hG.2.1⟩, hG.2.2.1.F ht9⟩) hG.2.2.1.2.2 d_mo_init_125)
    · refine lv_iconst (v := 4) hx hb d_mo_init_78 (by decide) ?_
      refine lv_goto (tgt := 83) hx hb d_mo_init_79 (by decide) ?_
      refine g_topi (y := nI C) (by rw [← hC0, ← cla_m (by decide)]; first | rw [if_neg c66] | rw [if_pos c66, if_pos c75] | rw [if_pos c66, if_neg c75]) ?_
      refine g_putF S hE.1 hG f60 rfl in_mo ty_mo tyok_mo nm_mo 1 (by decide) tw_492 (fun _ h9 => h9) rfl hin rfl (ty := .int) (by decide +kernel) rfl rfl (Nat.le_of_ble_eq_true rfl) d_mo_init_83 (fun H locs hG => ?_)
      have hG : gS (gA G s.heap.size) s.heap Z.1 cls (gup G60 h (.inr (4, [.int 0, .int (nI C), .int 0, .ref q8, .ref q17, .ref q26, .ref q34, .ref q42, .int 0, .int 0, .ref q50, .int 0, .ref q58]))) H locs := hG
      generalize eG83 : gup G60 h (.inr (4, [.int 0, .int (nI C), .int 0, .ref q8, .ref q17, .ref q26, .ref q34, .ref q42, .int 0, .int 0, .ref q50, .int 0, .ref q58])) = G83 at hG
      have f83_q8 : G83 q8 = some (.inl (Z.2 1, 768, .inl (fun _ => 0))) := by rw [← eG83]; exact gup_keep f60 f60_q8 (by simp)
      have f83_q17 : G83 q17 = some (.inl (Z.2 2, 768, .inl (fun _ => 0))) := by rw [← eG83]; exact gup_keep f60 f60_q17 (by simp)
      have f83_q26 : G83 q26 = some (.inl (Z.2 2, 744, .inl (fun _ => 0))) := by rw [← eG83]; exact gup_keep f60 f60_q26 (by simp)
      have f83_q34 : G83 q34 = some (.inl (Z.2 2, 24, .inl (fun _ => 0))) := by rw [← eG83]; exact gup_keep f60 f60_q34 (by simp)
      have f83_q42 : G83 q42 = some (.inl (Z.2 1, 24, .inl (fun _ => 0))) := by rw [← eG83]; exact gup_keep f60 f60_q42 (by simp)
      have f83_q50 : G83 q50 = some (.inl (Z.2 2, 16, .inl (fun _ => 0))) := by rw [← eG83]; exact gup_keep f60 f60_q50 (by simp)
      have f83_q58 : G83 q58 = some (.inl (Z.2 1, 16, .inl (fun _ => 0))) := by rw [← eG83]; exact gup_keep f60 f60_q58 (by simp)
      have f83 : G83 h = some (.inr (4, [.int 0, .int (nI C), .int 0, .ref q8, .ref q17, .ref q26, .ref q34, .ref q42, .int 0, .int 0, .ref q50, .int 0, .ref q58])) := by rw [← eG83]; exact gup_self _ _ _
      have hK : gKe (fun q => q = h) G G83 := by rw [← eG83]; exact hK.up (by simp)
      refine lv_aload_n hx hb d_mo_init_86 rfl (lv_at hl 0 rfl) ?_
      refine lv_iload_n hx hb d_mo_init_87 rfl (lv_at hl 2 rfl) ?_
      refine lv_iconst (v := 1) hx hb d_mo_init_88 (by decide) ?_
      refine lv_icmp_ge (tgt := 96) hx hb d_mo_init_89 (by decide) (fun c89 => ?_) (fun c89 => ?_)
      · refine lv_iload_n hx hb d_mo_init_96 rfl (lv_at hl 2 rfl) ?_
        refine lv_bipush (v := 8) hx hb d_mo_init_97 (by decide) ?_
        refine lv_icmp_le (tgt := 107) hx hb d_mo_init_99 (by decide) (fun c99 => ?_) (fun c99 => ?_)
        · refine lv_iload_n hx hb d_mo_init_107 rfl (lv_at hl 2 rfl) ?_
          refine g_topi (y := nI E) (by rw [← hE0, ← cla_m (by decide)]; first | rw [if_neg c89] | rw [if_pos c89, if_pos c99] | rw [if_pos c89, if_neg c99]) ?_
          refine g_putF S hE.1 hG f83 rfl in_mo ty_mo tyok_mo nm_mo 2 (by decide) tw_493 (fun _ h9 => h9) rfl hin rfl (ty := .int) (by decide +kernel) rfl rfl (Nat.le_of_ble_eq_true rfl) d_mo_init_108 (fun H locs hG => ?_)
          have hG : gS (gA G s.heap.size) s.heap Z.1 cls (gup G83 h (.inr (4, [.int 0, .int (nI C), .int (nI E), .ref q8, .ref q17, .ref q26, .ref q34, .ref q42, .int 0, .int 0, .ref q50, .int 0, .ref q58]))) H locs := hG
          generalize eG108 : gup G83 h (.inr (4, [.int 0, .int (nI C), .int (nI E), .ref q8, .ref q17, .ref q26, .ref q34, .ref q42, .int 0, .int 0, .ref q50, .int 0, .ref q58])) = G108 at hG
          have f108_q8 : G108 q8 = some (.inl (Z.2 1, 768, .inl (fun _ => 0))) := by rw [← eG108]; exact gup_keep f83 f83_q8 (by simp)
          have f108_q17 : G108 q17 = some (.inl (Z.2 2, 768, .inl (fun _ => 0))) := by rw [← eG108]; exact gup_keep f83 f83_q17 (by simp)
          have f108_q26 : G108 q26 = some (.inl (Z.2 2, 744, .inl (fun _ => 0))) := by rw [← eG108]; exact gup_keep f83 f83_q26 (by simp)
          have f108_q34 : G108 q34 = some (.inl (Z.2 2, 24, .inl (fun _ => 0))) := by rw [← eG108]; exact gup_keep f83 f83_q34 (by simp)
          have f108_q42 : G108 q42 = some (.inl (Z.2 1, 24, .inl (fun _ => 0))) := by rw [← eG108]; exact gup_keep f83 f83_q42 (by simp)
          have f108_q50 : G108 q50 = some (.inl (Z.2 2, 16, .inl (fun _ => 0))) := by rw [← eG108]; exact gup_keep f83 f83_q50 (by simp)
          have f108_q58 : G108 q58 = some (.inl (Z.2 1, 16, .inl (fun _ => 0))) := by rw [← eG108]; exact gup_keep f83 f83_q58 (by simp)
          have f108 : G108 h = some (.inr (4, [.int 0, .int (nI C), .int (nI E), .ref q8, .ref q17, .ref q26, .ref q34, .ref q42, .int 0, .int 0, .ref q50, .int 0, .ref q58])) := by rw [← eG108]; exact gup_self _ _ _
          have hK : gKe (fun q => q = h) G G108 := by rw [← eG108]; exact hK.up (by simp)
          refine lv_aload_n hx hb d_mo_init_111 rfl (lv_at hl 0 rfl) ?_
          refine lv_bipush (v := nI 8) hx hb d_mo_init_112 (by decide) ?_
          refine g_put S hE.1 hG f108 rfl in_mo ty_mo tyok_mo nm_mo 9 (by decide) tw_500 (fun _ h9 => h9) rfl (ty := .int) (by decide +kernel) rfl rfl (Nat.le_of_ble_eq_true rfl) d_mo_init_114 (fun H locs hG => ?_)
          have hG : gS (gA G s.heap.size) s.heap Z.1 cls (gup G108 h (.inr (4, [.int 0, .int (nI C), .int (nI E), .ref q8, .ref q17, .ref q26, .ref q34, .ref q42, .int 0, .int (nI 8), .ref q50, .int 0, .ref q58]))) H locs := hG
          generalize eG114 : gup G108 h (.inr (4, [.int 0, .int (nI C), .int (nI E), .ref q8, .ref q17, .ref q26, .ref q34, .ref q42, .int 0, .int (nI 8), .ref q50, .int 0, .ref q58])) = G114 at hG
          have f114_q8 : G114 q8 = some (.inl (Z.2 1, 768, .inl (fun _ => 0))) := by rw [← eG114]; exact gup_keep f108 f108_q8 (by simp)
          have f114_q17 : G114 q17 = some (.inl (Z.2 2, 768, .inl (fun _ => 0))) := by rw [← eG114]; exact gup_keep f108 f108_q17 (by simp)
          have f114_q26 : G114 q26 = some (.inl (Z.2 2, 744, .inl (fun _ => 0))) := by rw [← eG114]; exact gup_keep f108 f108_q26 (by simp)
          have f114_q34 : G114 q34 = some (.inl (Z.2 2, 24, .inl (fun _ => 0))) := by rw [← eG114]; exact gup_keep f108 f108_q34 (by simp)
          have f114_q42 : G114 q42 = some (.inl (Z.2 1, 24, .inl (fun _ => 0))) := by rw [← eG114]; exact gup_keep f108 f108_q42 (by simp)
          have f114_q50 : G114 q50 = some (.inl (Z.2 2, 16, .inl (fun _ => 0))) := by rw [← eG114]; exact gup_keep f108 f108_q50 (by simp)
          have f114_q58 : G114 q58 = some (.inl (Z.2 1, 16, .inl (fun _ => 0))) := by rw [← eG114]; exact gup_keep f108 f108_q58 (by simp)
          have f114 : G114 h = some (.inr (4, [.int 0, .int (nI C), .int (nI E), .ref q8, .ref q17, .ref q26, .ref q34, .ref q42, .int 0, .int (nI 8), .ref q50, .int 0, .ref q58])) := by rw [← eG114]; exact gup_self _ _ _
          have hK : gKe (fun q => q = h) G G114 := by rw [← eG114]; exact hK.up (by simp)
          refine lv_aload_n hx hb d_mo_init_117 rfl (lv_at hl 0 rfl) ?_
          refine g_get S hE.1 hG.1 f114 rfl in_mo 10 (by decide) tw_501 (fun _ h9 => h9) rfl d_mo_init_118 ?_
          refine lv_bipush (v := nI 7) hx hb d_mo_init_121 (by decide) ?_
          refine lv_iconst (v := 1) hx hb d_mo_init_123 (by decide) ?_
          refine g_zast S hE.1 hG f114_q50 2 rfl (vp_in_nI (by omega) (by omega)) d_mo_init_124 (fun H locs hG => ?_)
          rw [nI_clamp (show 7 < 2 ^ 31 by omega)] at hG
          have hG : gS (gA G s.heap.size) s.heap Z.1 cls (gup G114 q50 (.inl (Z.2 2, 16, .inl (upd (fun _ => 0) 7 1)))) H locs := hG
          generalize eG124 : gup G114 q50 (.inl (Z.2 2, 16, .inl (upd (fun _ => 0) 7 1))) = G124 at hG
          have f124_q8 : G124 q8 = some (.inl (Z.2 1, 768, .inl (fun _ => 0))) := by rw [← eG124]; exact gup_keep f114_q50 f114_q8 (by simp)
          have f124_q17 : G124 q17 = some (.inl (Z.2 2, 768, .inl (fun _ => 0))) := by rw [← eG124]; exact gup_keep f114_q50 f114_q17 (by simp)
          have f124_q26 : G124 q26 = some (.inl (Z.2 2, 744, .inl (fun _ => 0))) := by rw [← eG124]; exact gup_keep f114_q50 f114_q26 (by simp)
          have f124_q34 : G124 q34 = some (.inl (Z.2 2, 24, .inl (fun _ => 0))) := by rw [← eG124]; exact gup_keep f114_q50 f114_q34 (by simp)
          have f124_q42 : G124 q42 = some (.inl (Z.2 1, 24, .inl (fun _ => 0))) := by rw [← eG124]; exact gup_keep f114_q50 f114_q42 (by simp)
          have f124_q58 : G124 q58 = some (.inl (Z.2 1, 16, .inl (fun _ => 0))) := by rw [← eG124]; exact (gup_ne _ _ (fun e => by rw [e] at hn58; rw [f52_q50] at hn58; cases hn58)).trans f114_q58
          have f124_h : G124 h = some (.inr (4, [.int 0, .int (nI C), .int (nI E), .ref q8, .ref q17, .ref q26, .ref q34, .ref q42, .int 0, .int (nI 8), .ref q50, .int 0, .ref q58])) := by rw [← eG124]; exact gup_keep f114_q50 f114 (by simp)
          have f124 : G124 q50 = some (.inl (Z.2 2, 16, .inl (upd (fun _ => 0) 7 1))) := by rw [← eG124]; exact gup_self _ _ _
          have hK : gKe (fun q => q = h) G G124 := by rw [← eG124]; exact hK.upn (gnoneK2 hK50 hn50 f44)
          refine W.widen (k := 7) (n := 2360) (Nat.le_of_ble_eq_true rfl) (Nat.le_of_ble_eq_true rfl) ?_
          exact (W.vret hx hb hr (fun t9 ht9 hW9 => ⟨⟨_, rfl, ⟨hK, q8, q17, q26, q34, q42, q50, q58, ⟨gnoneK2 hK8 hn8 hp, gnoneK2 hK17 hn17 f10, gnoneK2 hK26 hn26 f19, gnoneK2 hK34 hn34 f28, gnoneK2 hK42 hn42 f36, gnoneK2 hK50 hn50 f44, gnoneK2 hK58 hn58 f52⟩, (fun _ => 0), (fun _ => 0), (fun _ => 0), (fun _ => 0), (fun _ => 0), _, (fun _ => 0), ⟨f124_h, f124_q8, f124_q17, f124_q26, f124_q34, f124_q42, f124, f124_q58, (fun e => by rw [← e] at hn17; rw [f10_q8] at hn17; cases hn17), (fun e => by rw [← e] at hn42; rw [f36_q34] at hn42; cases hn42), (fun e => by rw [← e] at hn58; rw [f52_q50] at hn58; cases hn58)⟩, Sim.start C E _ _ _, simT_8, hC, hE8, Or.inl rfl⟩, by rw [ht9]; exact hG.1, hG.2.1⟩, hG.2.2.1.F ht9⟩) hG.2.2.1.2.2 d_mo_init_125)
        · refine lv_bipush (v := 8) hx hb d_mo_init_102 (by decide) ?_
          refine lv_goto (tgt := 108) hx hb d_mo_init_104 (by decide) ?_
          refine g_topi (y := nI E) (by rw [← hE0, ← cla_m (by decide)]; first | rw [if_neg c89] | rw [if_pos c89, if_pos c99] | rw [if_pos c89, if_neg c99]) ?_
          refine g_putF S hE.1 hG f83 rfl in_mo ty_mo tyok_mo nm_mo 2 (by decide) tw_493 (fun _ h9 => h9) rfl hin rfl (ty := .int) (by decide +kernel) rfl rfl (Nat.le_of_ble_eq_true rfl) d_mo_init_108 (fun H locs hG => ?_)
          have hG : gS (gA G s.heap.size) s.heap Z.1 cls (gup G83 h (.inr (4, [.int 0, .int (nI C), .int (nI E), .ref q8, .ref q17, .ref q26, .ref q34, .ref q42, .int 0, .int 0, .ref q50, .int 0, .ref q58]))) H locs := hG
          generalize eG108 : gup G83 h (.inr (4, [.int 0, .int (nI C), .int (nI E), .ref q8, .ref q17, .ref q26, .ref q34, .ref q42, .int 0, .int 0, .ref q50, .int 0, .ref q58])) = G108 at hG
          have f108_q8 : G108 q8 = some (.inl (Z.2 1, 768, .inl (fun _ => 0))) := by rw [← eG108]; exact gup_keep f83 f83_q8 (by simp)
          have f108_q17 : G108 q17 = some (.inl (Z.2 2, 768, .inl (fun _ => 0))) := by rw [← eG108]; exact gup_keep f83 f83_q17 (by simp)
          have f108_q26 : G108 q26 = some (.inl (Z.2 2, 744, .inl (fun _ => 0))) := by rw [← eG108]; exact gup_keep f83 f83_q26 (by simp)
          have f108_q34 : G108 q34 = some (.inl (Z.2 2, 24, .inl (fun _ => 0))) := by rw [← eG108]; exact gup_keep f83 f83_q34 (by simp)
          have f108_q42 : G108 q42 = some (.inl (Z.2 1, 24, .inl (fun _ => 0))) := by rw [← eG108]; exact gup_keep f83 f83_q42 (by simp)
          have f108_q50 : G108 q50 = some (.inl (Z.2 2, 16, .inl (fun _ => 0))) := by rw [← eG108]; exact gup_keep f83 f83_q50 (by simp)
          have f108_q58 : G108 q58 = some (.inl (Z.2 1, 16, .inl (fun _ => 0))) := by rw [← eG108]; exact gup_keep f83 f83_q58 (by simp)
          have f108 : G108 h = some (.inr (4, [.int 0, .int (nI C), .int (nI E), .ref q8, .ref q17, .ref q26, .ref q34, .ref q42, .int 0, .int 0, .ref q50, .int 0, .ref q58])) := by rw [← eG108]; exact gup_self _ _ _
          have hK : gKe (fun q => q = h) G G108 := by rw [← eG108]; exact hK.up (by simp)
          refine lv_aload_n hx hb d_mo_init_111 rfl (lv_at hl 0 rfl) ?_
          refine lv_bipush (v := nI 8) hx hb d_mo_init_112 (by decide) ?_
          refine g_put S hE.1 hG f108 rfl in_mo ty_mo tyok_mo nm_mo 9 (by decide) tw_500 (fun _ h9 => h9) rfl (ty := .int) (by decide +kernel) rfl rfl (Nat.le_of_ble_eq_true rfl) d_mo_init_114 (fun H locs hG => ?_)
          have hG : gS (gA G s.heap.size) s.heap Z.1 cls (gup G108 h (.inr (4, [.int 0, .int (nI C), .int (nI E), .ref q8, .ref q17, .ref q26, .ref q34, .ref q42, .int 0, .int (nI 8), .ref q50, .int 0, .ref q58]))) H locs := hG
          generalize eG114 : gup G108 h (.inr (4, [.int 0, .int (nI C), .int (nI E), .ref q8, .ref q17, .ref q26, .ref q34, .ref q42, .int 0, .int (nI 8), .ref q50, .int 0, .ref q58])) = G114 at hG
          have f114_q8 : G114 q8 = some (.inl (Z.2 1, 768, .inl (fun _ => 0))) := by rw [← eG114]; exact gup_keep f108 f108_q8 (by simp)
          have f114_q17 : G114 q17 = some (.inl (Z.2 2, 768, .inl (fun _ => 0))) := by rw [← eG114]; exact gup_keep f108 f108_q17 (by simp)
          have f114_q26 : G114 q26 = some (.inl (Z.2 2, 744, .inl (fun _ => 0))) := by rw [← eG114]; exact gup_keep f108 f108_q26 (by simp)
          have f114_q34 : G114 q34 = some (.inl (Z.2 2, 24, .inl (fun _ => 0))) := by rw [← eG114]; exact gup_keep f108 f108_q34 (by simp)
          have f114_q42 : G114 q42 = some (.inl (Z.2 1, 24, .inl (fun _ => 0))) := by rw [← eG114]; exact gup_keep f108 f108_q42 (by simp)
          have f114_q50 : G114 q50 = some (.inl (Z.2 2, 16, .inl (fun _ => 0))) := by rw [← eG114]; exact gup_keep f108 f108_q50 (by simp)
          have f114_q58 : G114 q58 = some (.inl (Z.2 1, 16, .inl (fun _ => 0))) := by rw [← eG114]; exact gup_keep f108 f108_q58 (by simp)
          have f114 : G114 h = some (.inr (4, [.int 0, .int (nI C), .int (nI E), .ref q8, .ref q17, .ref q26, .ref q34, .ref q42, .int 0, .int (nI 8), .ref q50, .int 0, .ref q58])) := by rw [← eG114]; exact gup_self _ _ _
          have hK : gKe (fun q => q = h) G G114 := by rw [← eG114]; exact hK.up (by simp)
          refine lv_aload_n hx hb d_mo_init_117 rfl (lv_at hl 0 rfl) ?_
          refine g_get S hE.1 hG.1 f114 rfl in_mo 10 (by decide) tw_501 (fun _ h9 => h9) rfl d_mo_init_118 ?_
          refine lv_bipush (v := nI 7) hx hb d_mo_init_121 (by decide) ?_
          refine lv_iconst (v := 1) hx hb d_mo_init_123 (by decide) ?_
          refine g_zast S hE.1 hG f114_q50 2 rfl (vp_in_nI (by omega) (by omega)) d_mo_init_124 (fun H locs hG => ?_)
          rw [nI_clamp (show 7 < 2 ^ 31 by omega)] at hG
          have hG : gS (gA G s.heap.size) s.heap Z.1 cls (gup G114 q50 (.inl (Z.2 2, 16, .inl (upd (fun _ => 0) 7 1)))) H locs := hG
          generalize eG124 : gup G114 q50 (.inl (Z.2 2, 16, .inl (upd (fun _ => 0) 7 1))) = G124 at hG
          have f124_q8 : G124 q8 = some (.inl (Z.2 1, 768, .inl (fun _ => 0))) := by rw [← eG124]; exact gup_keep f114_q50 f114_q8 (by simp)
          have f124_q17 : G124 q17 = some (.inl (Z.2 2, 768, .inl (fun _ => 0))) := by rw [← eG124]; exact gup_keep f114_q50 f114_q17 (by simp)
          have f124_q26 : G124 q26 = some (.inl (Z.2 2, 744, .inl (fun _ => 0))) := by rw [← eG124]; exact gup_keep f114_q50 f114_q26 (by simp)
          have f124_q34 : G124 q34 = some (.inl (Z.2 2, 24, .inl (fun _ => 0))) := by rw [← eG124]; exact gup_keep f114_q50 f114_q34 (by simp)
          have f124_q42 : G124 q42 = some (.inl (Z.2 1, 24, .inl (fun _ => 0))) := by rw [← eG124]; exact gup_keep f114_q50 f114_q42 (by simp)
          have f124_q58 : G124 q58 = some (.inl (Z.2 1, 16, .inl (fun _ => 0))) := by rw [← eG124]; exact (gup_ne _ _ (fun e => by rw [e] at hn58; rw [f52_q50] at hn58; cases hn58)).trans f114_q58
          have f124_h : G124 h = some (.inr (4, [.int 0, .int (nI C), .int (nI E), .ref q8, .ref q17, .ref q26, .ref q34, .ref q42, .int 0, .int (nI 8), .ref q50, .int 0, .ref q58])) := by rw [← eG124]; exact gup_keep f114_q50 f114 (by simp)
          have f124 : G124 q50 = some (.inl (Z.2 2, 16, .inl (upd (fun _ => 0) 7 1))) := by rw [← eG124]; exact gup_self _ _ _
          have hK : gKe (fun q => q = h) G G124 := by rw [← eG124]; exact hK.upn (gnoneK2 hK50 hn50 f44)
          refine W.widen (k := 7) (n := 2360) (Nat.le_of_ble_eq_true rfl) (Nat.le_of_ble_eq_true rfl) ?_
          exact (W.vret hx hb hr (fun t9 ht9 hW9 => ⟨⟨_, rfl, ⟨hK, q8, q17, q26, q34, q42, q50, q58, ⟨gnoneK2 hK8 hn8 hp, gnoneK2 hK17 hn17 f10, gnoneK2 hK26 hn26 f19, gnoneK2 hK34 hn34 f28, gnoneK2 hK42 hn42 f36, gnoneK2 hK50 hn50 f44, gnoneK2 hK58 hn58 f52⟩, (fun _ => 0), (fun _ => 0), (fun _ => 0), (fun _ => 0), (fun _ => 0), _, (fun _ => 0), ⟨f124_h, f124_q8, f124_q17, f124_q26, f124_q34, f124_q42, f124, f124_q58, (fun e => by rw [← e] at hn17; rw [f10_q8] at hn17; cases hn17), (fun e => by rw [← e] at hn42; rw [f36_q34] at hn42; cases hn42), (fun e => by rw [← e] at hn58; rw [f52_q50] at hn58; cases hn58)⟩, Sim.start C E _ _ _, simT_8, hC, hE8, Or.inl rfl⟩, by rw [ht9]; exact hG.1, hG.2.1⟩, hG.2.2.1.F ht9⟩) hG.2.2.1.2.2 d_mo_init_125)
      · refine lv_iconst (v := 1) hx hb d_mo_init_92 (by decide) ?_
        refine lv_goto (tgt := 108) hx hb d_mo_init_93 (by decide) ?_
        refine g_topi (y := nI E) (by rw [← hE0, ← cla_m (by decide)]; first | rw [if_neg c89] | rw [if_pos c89, if_pos c99] | rw [if_pos c89, if_neg c99]) ?_
        refine g_putF S hE.1 hG f83 rfl in_mo ty_mo tyok_mo nm_mo 2 (by decide) tw_493 (fun _ h9 => h9) rfl hin rfl (ty := .int) (by decide +kernel) rfl rfl (Nat.le_of_ble_eq_true rfl) d_mo_init_108 (fun H locs hG => ?_)
        have hG : gS (gA G s.heap.size) s.heap Z.1 cls (gup G83 h (.inr (4, [.int 0, .int (nI C), .int (nI E), .ref q8, .ref q17, .ref q26, .ref q34, .ref q42, .int 0, .int 0, .ref q50, .int 0, .ref q58]))) H locs := hG
        generalize eG108 : gup G83 h (.inr (4, [.int 0, .int (nI C), .int (nI E), .ref q8, .ref q17, .ref q26, .ref q34, .ref q42, .int 0, .int 0, .ref q50, .int 0, .ref q58])) = G108 at hG
        have f108_q8 : G108 q8 = some (.inl (Z.2 1, 768, .inl (fun _ => 0))) := by rw [← eG108]; exact gup_keep f83 f83_q8 (by simp)
        have f108_q17 : G108 q17 = some (.inl (Z.2 2, 768, .inl (fun _ => 0))) := by rw [← eG108]; exact gup_keep f83 f83_q17 (by simp)
        have f108_q26 : G108 q26 = some (.inl (Z.2 2, 744, .inl (fun _ => 0))) := by rw [← eG108]; exact gup_keep f83 f83_q26 (by simp)
        have f108_q34 : G108 q34 = some (.inl (Z.2 2, 24, .inl (fun _ => 0))) := by rw [← eG108]; exact gup_keep f83 f83_q34 (by simp)
        have f108_q42 : G108 q42 = some (.inl (Z.2 1, 24, .inl (fun _ => 0))) := by rw [← eG108]; exact gup_keep f83 f83_q42 (by simp)
        have f108_q50 : G108 q50 = some (.inl (Z.2 2, 16, .inl (fun _ => 0))) := by rw [← eG108]; exact gup_keep f83 f83_q50 (by simp)
        have f108_q58 : G108 q58 = some (.inl (Z.2 1, 16, .inl (fun _ => 0))) := by rw [← eG108]; exact gup_keep f83 f83_q58 (by simp)
        have f108 : G108 h = some (.inr (4, [.int 0, .int (nI C), .int (nI E), .ref q8, .ref q17, .ref q26, .ref q34, .ref q42, .int 0, .int 0, .ref q50, .int 0, .ref q58])) := by rw [← eG108]; exact gup_self _ _ _
        have hK : gKe (fun q => q = h) G G108 := by rw [← eG108]; exact hK.up (by simp)
        refine lv_aload_n hx hb d_mo_init_111 rfl (lv_at hl 0 rfl) ?_
        refine lv_bipush (v := nI 8) hx hb d_mo_init_112 (by decide) ?_
        refine g_put S hE.1 hG f108 rfl in_mo ty_mo tyok_mo nm_mo 9 (by decide) tw_500 (fun _ h9 => h9) rfl (ty := .int) (by decide +kernel) rfl rfl (Nat.le_of_ble_eq_true rfl) d_mo_init_114 (fun H locs hG => ?_)
        have hG : gS (gA G s.heap.size) s.heap Z.1 cls (gup G108 h (.inr (4, [.int 0, .int (nI C), .int (nI E), .ref q8, .ref q17, .ref q26, .ref q34, .ref q42, .int 0, .int (nI 8), .ref q50, .int 0, .ref q58]))) H locs := hG
        generalize eG114 : gup G108 h (.inr (4, [.int 0, .int (nI C), .int (nI E), .ref q8, .ref q17, .ref q26, .ref q34, .ref q42, .int 0, .int (nI 8), .ref q50, .int 0, .ref q58])) = G114 at hG
        have f114_q8 : G114 q8 = some (.inl (Z.2 1, 768, .inl (fun _ => 0))) := by rw [← eG114]; exact gup_keep f108 f108_q8 (by simp)
        have f114_q17 : G114 q17 = some (.inl (Z.2 2, 768, .inl (fun _ => 0))) := by rw [← eG114]; exact gup_keep f108 f108_q17 (by simp)
        have f114_q26 : G114 q26 = some (.inl (Z.2 2, 744, .inl (fun _ => 0))) := by rw [← eG114]; exact gup_keep f108 f108_q26 (by simp)
        have f114_q34 : G114 q34 = some (.inl (Z.2 2, 24, .inl (fun _ => 0))) := by rw [← eG114]; exact gup_keep f108 f108_q34 (by simp)
        have f114_q42 : G114 q42 = some (.inl (Z.2 1, 24, .inl (fun _ => 0))) := by rw [← eG114]; exact gup_keep f108 f108_q42 (by simp)
        have f114_q50 : G114 q50 = some (.inl (Z.2 2, 16, .inl (fun _ => 0))) := by rw [← eG114]; exact gup_keep f108 f108_q50 (by simp)
        have f114_q58 : G114 q58 = some (.inl (Z.2 1, 16, .inl (fun _ => 0))) := by rw [← eG114]; exact gup_keep f108 f108_q58 (by simp)
        have f114 : G114 h = some (.inr (4, [.int 0, .int (nI C), .int (nI E), .ref q8, .ref q17, .ref q26, .ref q34, .ref q42, .int 0, .int (nI 8), .ref q50, .int 0, .ref q58])) := by rw [← eG114]; exact gup_self _ _ _
        have hK : gKe (fun q => q = h) G G114 := by rw [← eG114]; exact hK.up (by simp)
        refine lv_aload_n hx hb d_mo_init_117 rfl (lv_at hl 0 rfl) ?_
        refine g_get S hE.1 hG.1 f114 rfl in_mo 10 (by decide) tw_501 (fun _ h9 => h9) rfl d_mo_init_118 ?_
        refine lv_bipush (v := nI 7) hx hb d_mo_init_121 (by decide) ?_
        refine lv_iconst (v := 1) hx hb d_mo_init_123 (by decide) ?_
        refine g_zast S hE.1 hG f114_q50 2 rfl (vp_in_nI (by omega) (by omega)) d_mo_init_124 (fun H locs hG => ?_)
        rw [nI_clamp (show 7 < 2 ^ 31 by omega)] at hG
        have hG : gS (gA G s.heap.size) s.heap Z.1 cls (gup G114 q50 (.inl (Z.2 2, 16, .inl (upd (fun _ => 0) 7 1)))) H locs := hG
        generalize eG124 : gup G114 q50 (.inl (Z.2 2, 16, .inl (upd (fun _ => 0) 7 1))) = G124 at hG
        have f124_q8 : G124 q8 = some (.inl (Z.2 1, 768, .inl (fun _ => 0))) := by rw [← eG124]; exact gup_keep f114_q50 f114_q8 (by simp)
        have f124_q17 : G124 q17 = some (.inl (Z.2 2, 768, .inl (fun _ => 0))) := by rw [← eG124]; exact gup_keep f114_q50 f114_q17 (by simp)
        have f124_q26 : G124 q26 = some (.inl (Z.2 2, 744, .inl (fun _ => 0))) := by rw [← eG124]; exact gup_keep f114_q50 f114_q26 (by simp)
        have f124_q34 : G124 q34 = some (.inl (Z.2 2, 24, .inl (fun _ => 0))) := by rw [← eG124]; exact gup_keep f114_q50 f114_q34 (by simp)
        have f124_q42 : G124 q42 = some (.inl (Z.2 1, 24, .inl (fun _ => 0))) := by rw [← eG124]; exact gup_keep f114_q50 f114_q42 (by simp)
        have f124_q58 : G124 q58 = some (.inl (Z.2 1, 16, .inl (fun _ => 0))) := by rw [← eG124]; exact (gup_ne _ _ (fun e => by rw [e] at hn58; rw [f52_q50] at hn58; cases hn58)).trans f114_q58
        have f124_h : G124 h = some (.inr (4, [.int 0, .int (nI C), .int (nI E), .ref q8, .ref q17, .ref q26, .ref q34, .ref q42, .int 0, .int (nI 8), .ref q50, .int 0, .ref q58])) := by rw [← eG124]; exact gup_keep f114_q50 f114 (by simp)
        have f124 : G124 q50 = some (.inl (Z.2 2, 16, .inl (upd (fun _ => 0) 7 1))) := by rw [← eG124]; exact gup_self _ _ _
        have hK : gKe (fun q => q = h) G G124 := by rw [← eG124]; exact hK.upn (gnoneK2 hK50 hn50 f44)
        refine W.widen (k := 7) (n := 2360) (Nat.le_of_ble_eq_true rfl) (Nat.le_of_ble_eq_true rfl) ?_
        exact (W.vret hx hb hr (fun t9 ht9 hW9 => ⟨⟨_, rfl, ⟨hK, q8, q17, q26, q34, q42, q50, q58, ⟨gnoneK2 hK8 hn8 hp, gnoneK2 hK17 hn17 f10, gnoneK2 hK26 hn26 f19, gnoneK2 hK34 hn34 f28, gnoneK2 hK42 hn42 f36, gnoneK2 hK50 hn50 f44, gnoneK2 hK58 hn58 f52⟩, (fun _ => 0), (fun _ => 0), (fun _ => 0), (fun _ => 0), (fun _ => 0), _, (fun _ => 0), ⟨f124_h, f124_q8, f124_q17, f124_q26, f124_q34, f124_q42, f124, f124_q58, (fun e => by rw [← e] at hn17; rw [f10_q8] at hn17; cases hn17), (fun e => by rw [← e] at hn42; rw [f36_q34] at hn42; cases hn42), (fun e => by rw [← e] at hn58; rw [f52_q50] at hn58; cases hn58)⟩, Sim.start C E _ _ _, simT_8, hC, hE8, Or.inl rfl⟩, by rw [ht9]; exact hG.1, hG.2.1⟩, hG.2.2.1.F ht9⟩) hG.2.2.1.2.2 d_mo_init_125)
  · refine lv_iconst (v := 1) hx hb d_mo_init_69 (by decide) ?_
    refine lv_goto (tgt := 83) hx hb d_mo_init_70 (by decide) ?_
    refine g_topi (y := nI C) (by rw [← hC0, ← cla_m (by decide)]; first | rw [if_neg c66] | rw [if_pos c66, if_pos c75] | rw [if_pos c66, if_neg c75]) ?_
    refine g_putF S hE.1 hG f60 rfl in_mo ty_mo tyok_mo nm_mo 1 (by decide) tw_492 (fun _ h9 => h9) rfl hin rfl (ty := .int) (by decide +kernel) rfl rfl (Nat.le_of_ble_eq_true rfl) d_mo_init_83 (fun H locs hG => ?_)
    have hG : gS (gA G s.heap.size) s.heap Z.1 cls (gup G60 h (.inr (4, [.int 0, .int (nI C), .int 0, .ref q8, .ref q17, .ref q26, .ref q34, .ref q42, .int 0, .int 0, .ref q50, .int 0, .ref q58]))) H locs := hG
    generalize eG83 : gup G60 h (.inr (4, [.int 0, .int (nI C), .int 0, .ref q8, .ref q17, .ref q26, .ref q34, .ref q42, .int 0, .int 0, .ref q50, .int 0, .ref q58])) = G83 at hG
    have f83_q8 : G83 q8 = some (.inl (Z.2 1, 768, .inl (fun _ => 0))) := by rw [← eG83]; exact gup_keep f60 f60_q8 (by simp)
    have f83_q17 : G83 q17 = some (.inl (Z.2 2, 768, .inl (fun _ => 0))) := by rw [← eG83]; exact gup_keep f60 f60_q17 (by simp)
    have f83_q26 : G83 q26 = some (.inl (Z.2 2, 744, .inl (fun _ => 0))) := by rw [← eG83]; exact gup_keep f60 f60_q26 (by simp)
    have f83_q34 : G83 q34 = some (.inl (Z.2 2, 24, .inl (fun _ => 0))) := by rw [← eG83]; exact gup_keep f60 f60_q34 (by simp)
    have f83_q42 : G83 q42 = some (.inl (Z.2 1, 24, .inl (fun _ => 0))) := by rw [← eG83]; exact gup_keep f60 f60_q42 (by simp)
    have f83_q50 : G83 q50 = some (.inl (Z.2 2, 16, .inl (fun _ => 0))) := by rw [← eG83]; exact gup_keep f60 f60_q50 (by simp)
    have f83_q58 : G83 q58 = some (.inl (Z.2 1, 16, .inl (fun _ => 0))) := by rw [← eG83]; exact gup_keep f60 f60_q58 (by simp)
    have f83 : G83 h = some (.inr (4, [.int 0, .int (nI C), .int 0, .ref q8, .ref q17, .ref q26, .ref q34, .ref q42, .int 0, .int 0, .ref q50, .int 0, .ref q58])) := by rw [← eG83]; exact gup_self _ _ _
    have hK : gKe (fun q => q = h) G G83 := by rw [← eG83]; exact hK.up (by simp)
    refine lv_aload_n hx hb d_mo_init_86 rfl (lv_at hl 0 rfl) ?_
    refine lv_iload_n hx hb d_mo_init_87 rfl (lv_at hl 2 rfl) ?_
    refine lv_iconst (v := 1) hx hb d_mo_init_88 (by decide) ?_
    refine lv_icmp_ge (tgt := 96) hx hb d_mo_init_89 (by decide) (fun c89 => ?_) (fun c89 => ?_)
    · refine lv_iload_n hx hb d_mo_init_96 rfl (lv_at hl 2 rfl) ?_
      refine lv_bipush (v := 8) hx hb d_mo_init_97 (by decide) ?_
      refine lv_icmp_le (tgt := 107) hx hb d_mo_init_99 (by decide) (fun c99 => ?_) (fun c99 => ?_)
      · refine lv_iload_n hx hb d_mo_init_107 rfl (lv_at hl 2 rfl) ?_
        refine g_topi (y := nI E) (by rw [← hE0, ← cla_m (by decide)]; first | rw [if_neg c89] | rw [if_pos c89, if_pos c99] | rw [if_pos c89, if_neg c99]) ?_
        refine g_putF S hE.1 hG f83 rfl in_mo ty_mo tyok_mo nm_mo 2 (by decide) tw_493 (fun _ h9 => h9) rfl hin rfl (ty := .int) (by decide +kernel) rfl rfl (Nat.le_of_ble_eq_true rfl) d_mo_init_108 (fun H locs hG => ?_)
        have hG : gS (gA G s.heap.size) s.heap Z.1 cls (gup G83 h (.inr (4, [.int 0, .int (nI C), .int (nI E), .ref q8, .ref q17, .ref q26, .ref q34, .ref q42, .int 0, .int 0, .ref q50, .int 0, .ref q58]))) H locs := hG
        generalize eG108 : gup G83 h (.inr (4, [.int 0, .int (nI C), .int (nI E), .ref q8, .ref q17, .ref q26, .ref q34, .ref q42, .int 0, .int 0, .ref q50, .int 0, .ref q58])) = G108 at hG
        have f108_q8 : G108 q8 = some (.inl (Z.2 1, 768, .inl (fun _ => 0))) := by rw [← eG108]; exact gup_keep f83 f83_q8 (by simp)
        have f108_q17 : G108 q17 = some (.inl (Z.2 2, 768, .inl (fun _ => 0))) := by rw [← eG108]; exact gup_keep f83 f83_q17 (by simp)
        have f108_q26 : G108 q26 = some (.inl (Z.2 2, 744, .inl (fun _ => 0))) := by rw [← eG108]; exact gup_keep f83 f83_q26 (by simp)
        have f108_q34 : G108 q34 = some (.inl (Z.2 2, 24, .inl (fun _ => 0))) := by rw [← eG108]; exact gup_keep f83 f83_q34 (by simp)
        have f108_q42 : G108 q42 = some (.inl (Z.2 1, 24, .inl (fun _ => 0))) := by rw [← eG108]; exact gup_keep f83 f83_q42 (by simp)
        have f108_q50 : G108 q50 = some (.inl (Z.2 2, 16, .inl (fun _ => 0))) := by rw [← eG108]; exact gup_keep f83 f83_q50 (by simp)
        have f108_q58 : G108 q58 = some (.inl (Z.2 1, 16, .inl (fun _ => 0))) := by rw [← eG108]; exact gup_keep f83 f83_q58 (by simp)
        have f108 : G108 h = some (.inr (4, [.int 0, .int (nI C), .int (nI E), .ref q8, .ref q17, .ref q26, .ref q34, .ref q42, .int 0, .int 0, .ref q50, .int 0, .ref q58])) := by rw [← eG108]; exact gup_self _ _ _
        have hK : gKe (fun q => q = h) G G108 := by rw [← eG108]; exact hK.up (by simp)
        refine lv_aload_n hx hb d_mo_init_111 rfl (lv_at hl 0 rfl) ?_
        refine lv_bipush (v := nI 8) hx hb d_mo_init_112 (by decide) ?_
        refine g_put S hE.1 hG f108 rfl in_mo ty_mo tyok_mo nm_mo 9 (by decide) tw_500 (fun _ h9 => h9) rfl (ty := .int) (by decide +kernel) rfl rfl (Nat.le_of_ble_eq_true rfl) d_mo_init_114 (fun H locs hG => ?_)
        have hG : gS (gA G s.heap.size) s.heap Z.1 cls (gup G108 h (.inr (4, [.int 0, .int (nI C), .int (nI E), .ref q8, .ref q17, .ref q26, .ref q34, .ref q42, .int 0, .int (nI 8), .ref q50, .int 0, .ref q58]))) H locs := hG
        generalize eG114 : gup G108 h (.inr (4, [.int 0, .int (nI C), .int (nI E), .ref q8, .ref q17, .ref q26, .ref q34, .ref q42, .int 0, .int (nI 8), .ref q50, .int 0, .ref q58])) = G114 at hG
        have f114_q8 : G114 q8 = some (.inl (Z.2 1, 768, .inl (fun _ => 0))) := by rw [← eG114]; exact gup_keep f108 f108_q8 (by simp)
        have f114_q17 : G114 q17 = some (.inl (Z.2 2, 768, .inl (fun _ => 0))) := by rw [← eG114]; exact gup_keep f108 f108_q17 (by simp)
        have f114_q26 : G114 q26 = some (.inl (Z.2 2, 744, .inl (fun _ => 0))) := by rw [← eG114]; exact gup_keep f108 f108_q26 (by simp)
        have f114_q34 : G114 q34 = some (.inl (Z.2 2, 24, .inl (fun _ => 0))) := by rw [← eG114]; exact gup_keep f108 f108_q34 (by simp)
        have f114_q42 : G114 q42 = some (.inl (Z.2 1, 24, .inl (fun _ => 0))) := by rw [← eG114]; exact gup_keep f108 f108_q42 (by simp)
        have f114_q50 : G114 q50 = some (.inl (Z.2 2, 16, .inl (fun _ => 0))) := by rw [← eG114]; exact gup_keep f108 f108_q50 (by simp)
        have f114_q58 : G114 q58 = some (.inl (Z.2 1, 16, .inl (fun _ => 0))) := by rw [← eG114]; exact gup_keep f108 f108_q58 (by simp)
        have f114 : G114 h = some (.inr (4, [.int 0, .int (nI C), .int (nI E), .ref q8, .ref q17, .ref q26, .ref q34, .ref q42, .int 0, .int (nI 8), .ref q50, .int 0, .ref q58])) := by rw [← eG114]; exact gup_self _ _ _
        have hK : gKe (fun q => q = h) G G114 := by rw [← eG114]; exact hK.up (by simp)
        refine lv_aload_n hx hb d_mo_init_117 rfl (lv_at hl 0 rfl) ?_
        refine g_get S hE.1 hG.1 f114 rfl in_mo 10 (by decide) tw_501 (fun _ h9 => h9) rfl d_mo_init_118 ?_
        refine lv_bipush (v := nI 7) hx hb d_mo_init_121 (by decide) ?_
        refine lv_iconst (v := 1) hx hb d_mo_init_123 (by decide) ?_
        refine g_zast S hE.1 hG f114_q50 2 rfl (vp_in_nI (by omega) (by omega)) d_mo_init_124 (fun H locs hG => ?_)
        rw [nI_clamp (show 7 < 2 ^ 31 by omega)] at hG
        have hG : gS (gA G s.heap.size) s.heap Z.1 cls (gup G114 q50 (.inl (Z.2 2, 16, .inl (upd (fun _ => 0) 7 1)))) H locs := hG
        generalize eG124 : gup G114 q50 (.inl (Z.2 2, 16, .inl (upd (fun _ => 0) 7 1))) = G124 at hG
        have f124_q8 : G124 q8 = some (.inl (Z.2 1, 768, .inl (fun _ => 0))) := by rw [← eG124]; exact gup_keep f114_q50 f114_q8 (by simp)
        have f124_q17 : G124 q17 = some (.inl (Z.2 2, 768, .inl (fun _ => 0))) := by rw [← eG124]; exact gup_keep f114_q50 f114_q17 (by simp)
        have f124_q26 : G124 q26 = some (.inl (Z.2 2, 744, .inl (fun _ => 0))) := by rw [← eG124]; exact gup_keep f114_q50 f114_q26 (by simp)
        have f124_q34 : G124 q34 = some (.inl (Z.2 2, 24, .inl (fun _ => 0))) := by rw [← eG124]; exact gup_keep f114_q50 f114_q34 (by simp)
        have f124_q42 : G124 q42 = some (.inl (Z.2 1, 24, .inl (fun _ => 0))) := by rw [← eG124]; exact gup_keep f114_q50 f114_q42 (by simp)
        have f124_q58 : G124 q58 = some (.inl (Z.2 1, 16, .inl (fun _ => 0))) := by rw [← eG124]; exact (gup_ne _ _ (fun e => by rw [e] at hn58; rw [f52_q50] at hn58; cases hn58)).trans f114_q58
        have f124_h : G124 h = some (.inr (4, [.int 0, .int (nI C), .int (nI E), .ref q8, .ref q17, .ref q26, .ref q34, .ref q42, .int 0, .int (nI 8), .ref q50, .int 0, .ref q58])) := by rw [← eG124]; exact gup_keep f114_q50 f114 (by simp)
        have f124 : G124 q50 = some (.inl (Z.2 2, 16, .inl (upd (fun _ => 0) 7 1))) := by rw [← eG124]; exact gup_self _ _ _
        have hK : gKe (fun q => q = h) G G124 := by rw [← eG124]; exact hK.upn (gnoneK2 hK50 hn50 f44)
        refine W.widen (k := 7) (n := 2360) (Nat.le_of_ble_eq_true rfl) (Nat.le_of_ble_eq_true rfl) ?_
        exact (W.vret hx hb hr (fun t9 ht9 hW9 => ⟨⟨_, rfl, ⟨hK, q8, q17, q26, q34, q42, q50, q58, ⟨gnoneK2 hK8 hn8 hp, gnoneK2 hK17 hn17 f10, gnoneK2 hK26 hn26 f19, gnoneK2 hK34 hn34 f28, gnoneK2 hK42 hn42 f36, gnoneK2 hK50 hn50 f44, gnoneK2 hK58 hn58 f52⟩, (fun _ => 0), (fun _ => 0), (fun _ => 0), (fun _ => 0), (fun _ => 0), _, (fun _ => 0), ⟨f124_h, f124_q8, f124_q17, f124_q26, f124_q34, f124_q42, f124, f124_q58, (fun e => by rw [← e] at hn17; rw [f10_q8] at hn17; cases hn17), (fun e => by rw [← e] at hn42; rw [f36_q34] at hn42; cases hn42), (fun e => by rw [← e] at hn58; rw [f52_q50] at hn58; cases hn58)⟩, Sim.start C E _ _ _, simT_8, hC, hE8, Or.inl rfl⟩, by rw [ht9]; exact hG.1, hG.2.1⟩, hG.2.2.1.F ht9⟩) hG.2.2.1.2.2 d_mo_init_125)
      · refine lv_bipush (v := 8) hx hb d_mo_init_102 (by decide) ?_
        refine lv_goto (tgt := 108) hx hb d_mo_init_104 (by decide) ?_
        refine g_topi (y := nI E) (by rw [← hE0, ← cla_m (by decide)]; first | rw [if_neg c89] | rw [if_pos c89, if_pos c99] | rw [if_pos c89, if_neg c99]) ?_
        refine g_putF S hE.1 hG f83 rfl in_mo ty_mo tyok_mo nm_mo 2 (by decide) tw_493 (fun _ h9 => h9) rfl hin rfl (ty := .int) (by decide +kernel) rfl rfl (Nat.le_of_ble_eq_true rfl) d_mo_init_108 (fun H locs hG => ?_)
        have hG : gS (gA G s.heap.size) s.heap Z.1 cls (gup G83 h (.inr (4, [.int 0, .int (nI C), .int (nI E), .ref q8, .ref q17, .ref q26, .ref q34, .ref q42, .int 0, .int 0, .ref q50, .int 0, .ref q58]))) H locs := hG
        generalize eG108 : gup G83 h (.inr (4, [.int 0, .int (nI C), .int (nI E), .ref q8, .ref q17, .ref q26, .ref q34, .ref q42, .int 0, .int 0, .ref q50, .int 0, .ref q58])) = G108 at hG
        have f108_q8 : G108 q8 = some (.inl (Z.2 1, 768, .inl (fun _ => 0))) := by rw [← eG108]; exact gup_keep f83 f83_q8 (by simp)
        have f108_q17 : G108 q17 = some (.inl (Z.2 2, 768, .inl (fun _ => 0))) := by rw [← eG108]; exact gup_keep f83 f83_q17 (by simp)
        have f108_q26 : G108 q26 = some (.inl (Z.2 2, 744, .inl (fun _ => 0))) := by rw [← eG108]; exact gup_keep f83 f83_q26 (by simp)
        have f108_q34 : G108 q34 = some (.inl (Z.2 2, 24, .inl (fun _ => 0))) := by rw [← eG108]; exact gup_keep f83 f83_q34 (by simp)
        have f108_q42 : G108 q42 = some (.inl (Z.2 1, 24, .inl (fun _ => 0))) := by rw [← eG108]; exact gup_keep f83 f83_q42 (by simp)
        have f108_q50 : G108 q50 = some (.inl (Z.2 2, 16, .inl (fun _ => 0))) := by rw [← eG108]; exact gup_keep f83 f83_q50 (by simp)
        have f108_q58 : G108 q58 = some (.inl (Z.2 1, 16, .inl (fun _ => 0))) := by rw [← eG108]; exact gup_keep f83 f83_q58 (by simp)
        have f108 : G108 h = some (.inr (4, [.int 0, .int (nI C), .int (nI E), .ref q8, .ref q17, .ref q26, .ref q34, .ref q42, .int 0, .int 0, .ref q50, .int 0, .ref q58])) := by rw [← eG108]; exact gup_self _ _ _
        have hK : gKe (fun q => q = h) G G108 := by rw [← eG108]; exact hK.up (by simp)
        refine lv_aload_n hx hb d_mo_init_111 rfl (lv_at hl 0 rfl) ?_
        refine lv_bipush (v := nI 8) hx hb d_mo_init_112 (by decide) ?_
        refine g_put S hE.1 hG f108 rfl in_mo ty_mo tyok_mo nm_mo 9 (by decide) tw_500 (fun _ h9 => h9) rfl (ty := .int) (by decide +kernel) rfl rfl (Nat.le_of_ble_eq_true rfl) d_mo_init_114 (fun H locs hG => ?_)
        have hG : gS (gA G s.heap.size) s.heap Z.1 cls (gup G108 h (.inr (4, [.int 0, .int (nI C), .int (nI E), .ref q8, .ref q17, .ref q26, .ref q34, .ref q42, .int 0, .int (nI 8), .ref q50, .int 0, .ref q58]))) H locs := hG
        generalize eG114 : gup G108 h (.inr (4, [.int 0, .int (nI C), .int (nI E), .ref q8, .ref q17, .ref q26, .ref q34, .ref q42, .int 0, .int (nI 8), .ref q50, .int 0, .ref q58])) = G114 at hG
        have f114_q8 : G114 q8 = some (.inl (Z.2 1, 768, .inl (fun _ => 0))) := by rw [← eG114]; exact gup_keep f108 f108_q8 (by simp)
        have f114_q17 : G114 q17 = some (.inl (Z.2 2, 768, .inl (fun _ => 0))) := by rw [← eG114]; exact gup_keep f108 f108_q17 (by simp)
        have f114_q26 : G114 q26 = some (.inl (Z.2 2, 744, .inl (fun _ => 0))) := by rw [← eG114]; exact gup_keep f108 f108_q26 (by simp)
        have f114_q34 : G114 q34 = some (.inl (Z.2 2, 24, .inl (fun _ => 0))) := by rw [← eG114]; exact gup_keep f108 f108_q34 (by simp)
        have f114_q42 : G114 q42 = some (.inl (Z.2 1, 24, .inl (fun _ => 0))) := by rw [← eG114]; exact gup_keep f108 f108_q42 (by simp)
        have f114_q50 : G114 q50 = some (.inl (Z.2 2, 16, .inl (fun _ => 0))) := by rw [← eG114]; exact gup_keep f108 f108_q50 (by simp)
        have f114_q58 : G114 q58 = some (.inl (Z.2 1, 16, .inl (fun _ => 0))) := by rw [← eG114]; exact gup_keep f108 f108_q58 (by simp)
        have f114 : G114 h = some (.inr (4, [.int 0, .int (nI C), .int (nI E), .ref q8, .ref q17, .ref q26, .ref q34, .ref q42, .int 0, .int (nI 8), .ref q50, .int 0, .ref q58])) := by rw [← eG114]; exact gup_self _ _ _
        have hK : gKe (fun q => q = h) G G114 := by rw [← eG114]; exact hK.up (by simp)
        refine lv_aload_n hx hb d_mo_init_117 rfl (lv_at hl 0 rfl) ?_
        refine g_get S hE.1 hG.1 f114 rfl in_mo 10 (by decide) tw_501 (fun _ h9 => h9) rfl d_mo_init_118 ?_
        refine lv_bipush (v := nI 7) hx hb d_mo_init_121 (by decide) ?_
        refine lv_iconst (v := 1) hx hb d_mo_init_123 (by decide) ?_
        refine g_zast S hE.1 hG f114_q50 2 rfl (vp_in_nI (by omega) (by omega)) d_mo_init_124 (fun H locs hG => ?_)
        rw [nI_clamp (show 7 < 2 ^ 31 by omega)] at hG
        have hG : gS (gA G s.heap.size) s.heap Z.1 cls (gup G114 q50 (.inl (Z.2 2, 16, .inl (upd (fun _ => 0) 7 1)))) H locs := hG
        generalize eG124 : gup G114 q50 (.inl (Z.2 2, 16, .inl (upd (fun _ => 0) 7 1))) = G124 at hG
        have f124_q8 : G124 q8 = some (.inl (Z.2 1, 768, .inl (fun _ => 0))) := by rw [← eG124]; exact gup_keep f114_q50 f114_q8 (by simp)
        have f124_q17 : G124 q17 = some (.inl (Z.2 2, 768, .inl (fun _ => 0))) := by rw [← eG124]; exact gup_keep f114_q50 f114_q17 (by simp)
        have f124_q26 : G124 q26 = some (.inl (Z.2 2, 744, .inl (fun _ => 0))) := by rw [← eG124]; exact gup_keep f114_q50 f114_q26 (by simp)
        have f124_q34 : G124 q34 = some (.inl (Z.2 2, 24, .inl (fun _ => 0))) := by rw [← eG124]; exact gup_keep f114_q50 f114_q34 (by simp)
        have f124_q42 : G124 q42 = some (.inl (Z.2 1, 24, .inl (fun _ => 0))) := by rw [← eG124]; exact gup_keep f114_q50 f114_q42 (by simp)
        have f124_q58 : G124 q58 = some (.inl (Z.2 1, 16, .inl (fun _ => 0))) := by rw [← eG124]; exact (gup_ne _ _ (fun e => by rw [e] at hn58; rw [f52_q50] at hn58; cases hn58)).trans f114_q58
        have f124_h : G124 h = some (.inr (4, [.int 0, .int (nI C), .int (nI E), .ref q8, .ref q17, .ref q26, .ref q34, .ref q42, .int 0, .int (nI 8), .ref q50, .int 0, .ref q58])) := by rw [← eG124]; exact gup_keep f114_q50 f114 (by simp)
        have f124 : G124 q50 = some (.inl (Z.2 2, 16, .inl (upd (fun _ => 0) 7 1))) := by rw [← eG124]; exact gup_self _ _ _
        have hK : gKe (fun q => q = h) G G124 := by rw [← eG124]; exact hK.upn (gnoneK2 hK50 hn50 f44)
        refine W.widen (k := 7) (n := 2360) (Nat.le_of_ble_eq_true rfl) (Nat.le_of_ble_eq_true rfl) ?_
        exact (W.vret hx hb hr (fun t9 ht9 hW9 => ⟨⟨_, rfl, ⟨hK, q8, q17, q26, q34, q42, q50, q58, ⟨gnoneK2 hK8 hn8 hp, gnoneK2 hK17 hn17 f10, gnoneK2 hK26 hn26 f19, gnoneK2 hK34 hn34 f28, gnoneK2 hK42 hn42 f36, gnoneK2 hK50 hn50 f44, gnoneK2 hK58 hn58 f52⟩, (fun _ => 0), (fun _ => 0), (fun _ => 0), (fun _ => 0), (fun _ => 0), _, (fun _ => 0), ⟨f124_h, f124_q8, f124_q17, f124_q26, f124_q34, f124_q42, f124, f124_q58, (fun e => by rw [← e] at hn17; rw [f10_q8] at hn17; cases hn17), (fun e => by rw [← e] at hn42; rw [f36_q34] at hn42; cases hn42), (fun e => by rw [← e] at hn58; rw [f52_q50] at hn58; cases hn58)⟩, Sim.start C E _ _ _, simT_8, hC, hE8, Or.inl rfl⟩, by rw [ht9]; exact hG.1, hG.2.1⟩, hG.2.2.1.F ht9⟩) hG.2.2.1.2.2 d_mo_init_125)
    · refine lv_iconst (v := 1) hx hb d_mo_init_92 (by decide) ?_
      refine lv_goto (tgt := 108) hx hb d_mo_init_93 (by decide) ?_
      refine g_topi (y := nI E) (by rw [← hE0, ← cla_m (by decide)]; first | rw [if_neg c89] | rw [if_pos c89, if_pos c99] | rw [if_pos c89, if_neg c99]) ?_
      refine g_putF S hE.1 hG f83 rfl in_mo ty_mo tyok_mo nm_mo 2 (by decide) tw_493 (fun _ h9 => h9) rfl hin rfl (ty := .int) (by decide +kernel) rfl rfl (Nat.le_of_ble_eq_true rfl) d_mo_init_108 (fun H locs hG => ?_)
      have hG : gS (gA G s.heap.size) s.heap Z.1 cls (gup G83 h (.inr (4, [.int 0, .int (nI C), .int (nI E), .ref q8, .ref q17, .ref q26, .ref q34, .ref q42, .int 0, .int 0, .ref q50, .int 0, .ref q58]))) H locs := hG
      generalize eG108 : gup G83 h (.inr (4, [.int 0, .int (nI C), .int (nI E), .ref q8, .ref q17, .ref q26, .ref q34, .ref q42, .int 0, .int 0, .ref q50, .int 0, .ref q58])) = G108 at hG
      have f108_q8 : G108 q8 = some (.inl (Z.2 1, 768, .inl (fun _ => 0))) := by rw [← eG108]; exact gup_keep f83 f83_q8 (by simp)
      have f108_q17 : G108 q17 = some (.inl (Z.2 2, 768, .inl (fun _ => 0))) := by rw [← eG108]; exact gup_keep f83 f83_q17 (by simp)
      have f108_q26 : G108 q26 = some (.inl (Z.2 2, 744, .inl (fun _ => 0))) := by rw [← eG108]; exact gup_keep f83 f83_q26 (by simp)
      have f108_q34 : G108 q34 = some (.inl (Z.2 2, 24, .inl (fun _ => 0))) := by rw [← eG108]; exact gup_keep f83 f83_q34 (by simp)
      have f108_q42 : G108 q42 = some (.inl (Z.2 1, 24, .inl (fun _ => 0))) := by rw [← eG108]; exact gup_keep f83 f83_q42 (by simp)
      have f108_q50 : G108 q50 = some (.inl (Z.2 2, 16, .inl (fun _ => 0))) := by rw [← eG108]; exact gup_keep f83 f83_q50 (by simp)
      have f108_q58 : G108 q58 = some (.inl (Z.2 1, 16, .inl (fun _ => 0))) := by rw [← eG108]; exact gup_keep f83 f83_q58 (by simp)
      have f108 : G108 h = some (.inr (4, [.int 0, .int (nI C), .int (nI E), .ref q8, .ref q17, .ref q26, .ref q34, .ref q42, .int 0, .int 0, .ref q50, .int 0, .ref q58])) := by rw [← eG108]; exact gup_self _ _ _
      have hK : gKe (fun q => q = h) G G108 := by rw [← eG108]; exact hK.up (by simp)
      refine lv_aload_n hx hb d_mo_init_111 rfl (lv_at hl 0 rfl) ?_
      refine lv_bipush (v := nI 8) hx hb d_mo_init_112 (by decide) ?_
      refine g_put S hE.1 hG f108 rfl in_mo ty_mo tyok_mo nm_mo 9 (by decide) tw_500 (fun _ h9 => h9) rfl (ty := .int) (by decide +kernel) rfl rfl (Nat.le_of_ble_eq_true rfl) d_mo_init_114 (fun H locs hG => ?_)
      have hG : gS (gA G s.heap.size) s.heap Z.1 cls (gup G108 h (.inr (4, [.int 0, .int (nI C), .int (nI E), .ref q8, .ref q17, .ref q26, .ref q34, .ref q42, .int 0, .int (nI 8), .ref q50, .int 0, .ref q58]))) H locs := hG
      generalize eG114 : gup G108 h (.inr (4, [.int 0, .int (nI C), .int (nI E), .ref q8, .ref q17, .ref q26, .ref q34, .ref q42, .int 0, .int (nI 8), .ref q50, .int 0, .ref q58])) = G114 at hG
      have f114_q8 : G114 q8 = some (.inl (Z.2 1, 768, .inl (fun _ => 0))) := by rw [← eG114]; exact gup_keep f108 f108_q8 (by simp)
      have f114_q17 : G114 q17 = some (.inl (Z.2 2, 768, .inl (fun _ => 0))) := by rw [← eG114]; exact gup_keep f108 f108_q17 (by simp)
      have f114_q26 : G114 q26 = some (.inl (Z.2 2, 744, .inl (fun _ => 0))) := by rw [← eG114]; exact gup_keep f108 f108_q26 (by simp)
      have f114_q34 : G114 q34 = some (.inl (Z.2 2, 24, .inl (fun _ => 0))) := by rw [← eG114]; exact gup_keep f108 f108_q34 (by simp)
      have f114_q42 : G114 q42 = some (.inl (Z.2 1, 24, .inl (fun _ => 0))) := by rw [← eG114]; exact gup_keep f108 f108_q42 (by simp)
      have f114_q50 : G114 q50 = some (.inl (Z.2 2, 16, .inl (fun _ => 0))) := by rw [← eG114]; exact gup_keep f108 f108_q50 (by simp)
      have f114_q58 : G114 q58 = some (.inl (Z.2 1, 16, .inl (fun _ => 0))) := by rw [← eG114]; exact gup_keep f108 f108_q58 (by simp)
      have f114 : G114 h = some (.inr (4, [.int 0, .int (nI C), .int (nI E), .ref q8, .ref q17, .ref q26, .ref q34, .ref q42, .int 0, .int (nI 8), .ref q50, .int 0, .ref q58])) := by rw [← eG114]; exact gup_self _ _ _
      have hK : gKe (fun q => q = h) G G114 := by rw [← eG114]; exact hK.up (by simp)
      refine lv_aload_n hx hb d_mo_init_117 rfl (lv_at hl 0 rfl) ?_
      refine g_get S hE.1 hG.1 f114 rfl in_mo 10 (by decide) tw_501 (fun _ h9 => h9) rfl d_mo_init_118 ?_
      refine lv_bipush (v := nI 7) hx hb d_mo_init_121 (by decide) ?_
      refine lv_iconst (v := 1) hx hb d_mo_init_123 (by decide) ?_
      refine g_zast S hE.1 hG f114_q50 2 rfl (vp_in_nI (by omega) (by omega)) d_mo_init_124 (fun H locs hG => ?_)
      rw [nI_clamp (show 7 < 2 ^ 31 by omega)] at hG
      have hG : gS (gA G s.heap.size) s.heap Z.1 cls (gup G114 q50 (.inl (Z.2 2, 16, .inl (upd (fun _ => 0) 7 1)))) H locs := hG
      generalize eG124 : gup G114 q50 (.inl (Z.2 2, 16, .inl (upd (fun _ => 0) 7 1))) = G124 at hG
      have f124_q8 : G124 q8 = some (.inl (Z.2 1, 768, .inl (fun _ => 0))) := by rw [← eG124]; exact gup_keep f114_q50 f114_q8 (by simp)
      have f124_q17 : G124 q17 = some (.inl (Z.2 2, 768, .inl (fun _ => 0))) := by rw [← eG124]; exact gup_keep f114_q50 f114_q17 (by simp)
      have f124_q26 : G124 q26 = some (.inl (Z.2 2, 744, .inl (fun _ => 0))) := by rw [← eG124]; exact gup_keep f114_q50 f114_q26 (by simp)
      have f124_q34 : G124 q34 = some (.inl (Z.2 2, 24, .inl (fun _ => 0))) := by rw [← eG124]; exact gup_keep f114_q50 f114_q34 (by simp)
      have f124_q42 : G124 q42 = some (.inl (Z.2 1, 24, .inl (fun _ => 0))) := by rw [← eG124]; exact gup_keep f114_q50 f114_q42 (by simp)
      have f124_q58 : G124 q58 = some (.inl (Z.2 1, 16, .inl (fun _ => 0))) := by rw [← eG124]; exact (gup_ne _ _ (fun e => by rw [e] at hn58; rw [f52_q50] at hn58; cases hn58)).trans f114_q58
      have f124_h : G124 h = some (.inr (4, [.int 0, .int (nI C), .int (nI E), .ref q8, .ref q17, .ref q26, .ref q34, .ref q42, .int 0, .int (nI 8), .ref q50, .int 0, .ref q58])) := by rw [← eG124]; exact gup_keep f114_q50 f114 (by simp)
      have f124 : G124 q50 = some (.inl (Z.2 2, 16, .inl (upd (fun _ => 0) 7 1))) := by rw [← eG124]; exact gup_self _ _ _
      have hK : gKe (fun q => q = h) G G124 := by rw [← eG124]; exact hK.upn (gnoneK2 hK50 hn50 f44)
      refine W.widen (k := 7) (n := 2360) (Nat.le_of_ble_eq_true rfl) (Nat.le_of_ble_eq_true rfl) ?_
      exact (W.vret hx hb hr (fun t9 ht9 hW9 => ⟨⟨_, rfl, ⟨hK, q8, q17, q26, q34, q42, q50, q58, ⟨gnoneK2 hK8 hn8 hp, gnoneK2 hK17 hn17 f10, gnoneK2 hK26 hn26 f19, gnoneK2 hK34 hn34 f28, gnoneK2 hK42 hn42 f36, gnoneK2 hK50 hn50 f44, gnoneK2 hK58 hn58 f52⟩, (fun _ => 0), (fun _ => 0), (fun _ => 0), (fun _ => 0), (fun _ => 0), _, (fun _ => 0), ⟨f124_h, f124_q8, f124_q17, f124_q26, f124_q34, f124_q42, f124, f124_q58, (fun e => by rw [← e] at hn17; rw [f10_q8] at hn17; cases hn17), (fun e => by rw [← e] at hn42; rw [f36_q34] at hn42; cases hn42), (fun e => by rw [← e] at hn58; rw [f52_q50] at hn58; cases hn58)⟩, Sim.start C E _ _ _, simT_8, hC, hE8, Or.inl rfl⟩, by rw [ht9]; exact hG.1, hG.2.1⟩, hG.2.2.1.F ht9⟩) hG.2.2.1.2.2 d_mo_init_125)
