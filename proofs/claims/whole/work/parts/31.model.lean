set_option maxHeartbeats 4000000 in
set_option maxRecDepth 100000 in
theorem c_pt_init (l : Launch) (Z : gZ) (G : gh) (sz : Nat) (h : Nat) (hp : G h = some (.inr (3, [.int 0, .int 0, .int 0, .int 0, .int 0, .int 0]))) : Met l y_pt_init (wd_pt_init :: Gall) ({ frames := 1, cells := 0, slots := 0, locals := 20 }) (va_Pc [.ref h] (gPw Z G sz)) (va_Qv (fun (G9 : gh) => G9 = gup G h (.inr (3, [.int 0, .int 0, .int 0, .int 0, .int (-1), .int 0]))) (gW Z G sz) (gA G sz)) 0 0 (gA G sz) := by
  refine Met.ofW (cc := b_pt_init) (maxL := 1) (ret := none) (by decide) rfl ?_
  intro p e s m args below meth c s₁ B hml hv
  obtain ⟨rfl, hsz, hG, hE⟩ := hv
  subst hsz
  have hx := B.exec
  have hb := B.bytes
  have hr := B.returns
  have hlocks := B.notSynchronized
  have hin : meth.name = "<init>" := (name_of_methodNamed B.named B.method).1
  have S : CallFix p m c b_pt_init 1 s _ Gall "PackSeeds$Pattern" := ⟨hx, hb, hml, findClass_of_methodNamed B.named, fun w hw => atoms_spec (ws := wd_pt_init :: Gall) B.pre w (List.mem_cons_of_mem _ hw)⟩
  have hG : gS (gA G s.heap.size) s.heap Z.1 cls G s.heap [] := gS.start hG
  have hl := lv_entry ([.ref h]) (n := 1) (Nat.le_of_ble_eq_true rfl)
  rw [lg_entry_eq]
  generalize (lg_sl ([.ref h]) ++ List.replicate (1 - (lg_sl ([.ref h])).length) Slot.unset).toArray = ls at hl ⊢
  have hl : lv_has ls 1 [(0, .ref h)] := hl
  refine lv_aload_n hx hb d_pt_init_0 rfl (lv_at hl 0 rfl) ?_
  refine W.objInit hx hb S.2.2.2.1 (S.2.2.2.2 _ tw_217) (S.2.2.2.2 _ tw_20) (S.2.2.2.2 _ tw_21) rfl (by rw [hml]; exact hl.1) rfl d_pt_init_1 (Nat.le_of_ble_eq_true rfl) (Nat.le_of_ble_eq_true rfl) ?_
  refine W.eq (g2 := F0 m 4 ls []) rfl ?_
  refine lv_aload_n hx hb d_pt_init_4 rfl (lv_at hl 0 rfl) ?_
  refine lv_iconst (v := 0) hx hb d_pt_init_5 (by decide) ?_
  refine g_put S hE.1 hG hp rfl in_pt ty_pt tyok_pt nm_pt 0 (by decide) tw_218 (fun _ h9 => h9) rfl (ty := .int) (by decide +kernel) rfl rfl (Nat.le_of_ble_eq_true rfl) d_pt_init_6 (fun H locs hG => ?_)
  have hG : gS (gA G s.heap.size) s.heap Z.1 cls (gup G h (.inr (3, [.int 0, .int 0, .int 0, .int 0, .int 0, .int 0]))) H locs := hG
  generalize eG6 : gup G h (.inr (3, [.int 0, .int 0, .int 0, .int 0, .int 0, .int 0])) = G6 at hG
  have f6 : G6 h = some (.inr (3, [.int 0, .int 0, .int 0, .int 0, .int 0, .int 0])) := by rw [← eG6]; exact gup_self _ _ _
  refine lv_aload_n hx hb d_pt_init_9 rfl (lv_at hl 0 rfl) ?_
  refine lv_iconst (v := 0) hx hb d_pt_init_10 (by decide) ?_
  refine g_put S hE.1 hG f6 rfl in_pt ty_pt tyok_pt nm_pt 1 (by decide) tw_220 (fun _ h9 => h9) rfl (ty := .int) (by decide +kernel) rfl rfl (Nat.le_of_ble_eq_true rfl) d_pt_init_11 (fun H locs hG => ?_)
  have hG : gS (gA G s.heap.size) s.heap Z.1 cls (gup G6 h (.inr (3, [.int 0, .int 0, .int 0, .int 0, .int 0, .int 0]))) H locs := hG
  generalize eG11 : gup G6 h (.inr (3, [.int 0, .int 0, .int 0, .int 0, .int 0, .int 0])) = G11 at hG
  have f11 : G11 h = some (.inr (3, [.int 0, .int 0, .int 0, .int 0, .int 0, .int 0])) := by rw [← eG11]; exact gup_self _ _ _
  refine lv_aload_n hx hb d_pt_init_14 rfl (lv_at hl 0 rfl) ?_
  refine lv_iconst (v := 0) hx hb d_pt_init_15 (by decide) ?_
  refine g_put S hE.1 hG f11 rfl in_pt ty_pt tyok_pt nm_pt 2 (by decide) tw_222 (fun _ h9 => h9) rfl (ty := .int) (by decide +kernel) rfl rfl (Nat.le_of_ble_eq_true rfl) d_pt_init_16 (fun H locs hG => ?_)
  have hG : gS (gA G s.heap.size) s.heap Z.1 cls (gup G11 h (.inr (3, [.int 0, .int 0, .int 0, .int 0, .int 0, .int 0]))) H locs := hG
  generalize eG16 : gup G11 h (.inr (3, [.int 0, .int 0, .int 0, .int 0, .int 0, .int 0])) = G16 at hG
  have f16 : G16 h = some (.inr (3, [.int 0, .int 0, .int 0, .int 0, .int 0, .int 0])) := by rw [← eG16]; exact gup_self _ _ _
  refine lv_aload_n hx hb d_pt_init_19 rfl (lv_at hl 0 rfl) ?_
  refine lv_iconst (v := 0) hx hb d_pt_init_20 (by decide) ?_
  refine g_put S hE.1 hG f16 rfl in_pt ty_pt tyok_pt nm_pt 3 (by decide) tw_224 (fun _ h9 => h9) rfl (ty := .int) (by decide +kernel) rfl rfl (Nat.le_of_ble_eq_true rfl) d_pt_init_21 (fun H locs hG => ?_)
  have hG : gS (gA G s.heap.size) s.heap Z.1 cls (gup G16 h (.inr (3, [.int 0, .int 0, .int 0, .int 0, .int 0, .int 0]))) H locs := hG
  generalize eG21 : gup G16 h (.inr (3, [.int 0, .int 0, .int 0, .int 0, .int 0, .int 0])) = G21 at hG
  have f21 : G21 h = some (.inr (3, [.int 0, .int 0, .int 0, .int 0, .int 0, .int 0])) := by rw [← eG21]; exact gup_self _ _ _
  refine lv_aload_n hx hb d_pt_init_24 rfl (lv_at hl 0 rfl) ?_
  refine lv_iconst (v := (-1)) hx hb d_pt_init_25 (by decide) ?_
  refine g_put S hE.1 hG f21 rfl in_pt ty_pt tyok_pt nm_pt 4 (by decide) tw_226 (fun _ h9 => h9) rfl (ty := .int) (by decide +kernel) rfl rfl (Nat.le_of_ble_eq_true rfl) d_pt_init_26 (fun H locs hG => ?_)
  have hG : gS (gA G s.heap.size) s.heap Z.1 cls (gup G21 h (.inr (3, [.int 0, .int 0, .int 0, .int 0, .int (-1), .int 0]))) H locs := hG
  generalize eG26 : gup G21 h (.inr (3, [.int 0, .int 0, .int 0, .int 0, .int (-1), .int 0])) = G26 at hG
  have f26 : G26 h = some (.inr (3, [.int 0, .int 0, .int 0, .int 0, .int (-1), .int 0])) := by rw [← eG26]; exact gup_self _ _ _
  refine lv_aload_n hx hb d_pt_init_29 rfl (lv_at hl 0 rfl) ?_
  refine lv_iconst (v := 0) hx hb d_pt_init_30 (by decide) ?_
  refine g_put S hE.1 hG f26 rfl in_pt ty_pt tyok_pt nm_pt 5 (by decide) tw_228 (fun _ h9 => h9) rfl (ty := .boolean) (by decide +kernel) rfl rfl (Nat.le_of_ble_eq_true rfl) d_pt_init_31 (fun H locs hG => ?_)
  have hG : gS (gA G s.heap.size) s.heap Z.1 cls (gup G26 h (.inr (3, [.int 0, .int 0, .int 0, .int 0, .int (-1), .int 0]))) H locs := hG
  generalize eG31 : gup G26 h (.inr (3, [.int 0, .int 0, .int 0, .int 0, .int (-1), .int 0])) = G31 at hG
  have f31 : G31 h = some (.inr (3, [.int 0, .int 0, .int 0, .int 0, .int (-1), .int 0])) := by rw [← eG31]; exact gup_self _ _ _
  refine W.widen (k := 0) (n := 0) (Nat.le_of_ble_eq_true rfl) (Nat.le_of_ble_eq_true rfl) ?_
  exact (W.vret hx hb hr (fun t9 ht9 hW9 => ⟨⟨_, rfl, (by rw [← eG31, ← eG26, ← eG21, ← eG16, ← eG11, ← eG6]; simp only [gup_gup]), by rw [ht9]; exact hG.1, hG.2.1⟩, hG.2.2.1.F ht9⟩) hG.2.2.1.2.2 d_pt_init_34)

set_option maxHeartbeats 4000000 in
set_option maxRecDepth 100000 in
theorem c_pt_setCare (l : Launch) (Z : gZ) (G : gh) (sz : Nat) (h : Nat) {q : Pat} (hp : G h = some (.inr (3, pfs q))) (pl v : Int32) : Met l y_pt_setCare (wd_pt_setCare :: Gall) ({ frames := 1, cells := 0, slots := 0, locals := 21 }) (va_Pc [.ref h, .int pl, .int v] (gPw Z G sz)) (va_Qi (fun (r : Int32) (G9 : gh) => (carC (pca q) (pva q) pl = v ∧ r = 0 ∧ G9 = G) ∨ (¬ carC (pca q) (pva q) pl = v ∧ r = 1 ∧ G9 = gup G h (.inr (3, pfs (qcare q pl v))))) (gW Z G sz) (gA G sz)) 0 0 (gA G sz) := by
  refine Met.ofW (cc := b_pt_setCare) (maxL := 3) (ret := (some .boolean)) (by decide) rfl ?_
  intro p e s m args below meth c s₁ B hml hv
  obtain ⟨rfl, hsz, hG, hE⟩ := hv
  subst hsz
  have hx := B.exec
  have hb := B.bytes
  have hr := B.returns
  have hlocks := B.notSynchronized
  have S : CallFix p m c b_pt_setCare 3 s _ Gall "PackSeeds$Pattern" := ⟨hx, hb, hml, findClass_of_methodNamed B.named, fun w hw => atoms_spec (ws := wd_pt_setCare :: Gall) B.pre w (List.mem_cons_of_mem _ hw)⟩
  have hG : gS (gA G s.heap.size) s.heap Z.1 cls G s.heap [] := gS.start hG
  have hl := lv_entry ([.ref h, .int pl, .int v]) (n := 3) (Nat.le_of_ble_eq_true rfl)
  rw [lg_entry_eq]
  generalize (lg_sl ([.ref h, .int pl, .int v]) ++ List.replicate (3 - (lg_sl ([.ref h, .int pl, .int v])).length) Slot.unset).toArray = ls at hl ⊢
  have hl : lv_has ls 3 [(0, .ref h), (1, .int pl), (2, .int v)] := hl
  refine lv_aload_n hx hb d_pt_setCare_0 rfl (lv_at hl 0 rfl) ?_
  refine lv_iload_n hx hb d_pt_setCare_1 rfl (lv_at hl 1 rfl) ?_
  refine g_reti (g_runV (As := [.int pl]) (rest := []) S lk_pt_31 k_pt_careAt (c_pt_careAt l Z G h hp pl) ⟨rfl, rfl⟩ ⟨Nat.le_of_ble_eq_true rfl, Nat.le_of_ble_eq_true rfl⟩ (gPreV hG.1 hE hp rfl) rfl hl.1 rfl (Nat.le_of_ble_eq_true rfl) d_pt_setCare_2 ⟨Nat.le_of_ble_eq_true rfl, Nat.le_of_ble_eq_true rfl⟩) (fun r2 h2 => ?_)
  refine lv_iload_n hx hb d_pt_setCare_5 rfl (lv_at hl 2 rfl) ?_
  refine lv_icmp_ne (tgt := 11) hx hb d_pt_setCare_6 (by decide) (fun c6 => ?_) (fun c6 => ?_)
  · refine lv_aload_n hx hb d_pt_setCare_11 rfl (lv_at hl 0 rfl) ?_
    refine lv_iload_n hx hb d_pt_setCare_12 rfl (lv_at hl 2 rfl) ?_
    refine lv_iconst (v := (-1)) hx hb d_pt_setCare_13 (by decide) ?_
    refine lv_icmp_ne (tgt := 28) hx hb d_pt_setCare_14 (by decide) (fun c14 => ?_) (fun c14 => ?_)
    · refine lv_aload_n hx hb d_pt_setCare_28 rfl (lv_at hl 0 rfl) ?_
      refine g_get S hE.1 hG.1 hp rfl in_pt 0 (by decide) tw_218 (fun _ h9 => h9) rfl d_pt_setCare_29 ?_
      refine lv_iload_n hx hb d_pt_setCare_32 rfl (lv_at hl 1 rfl) ?_
      refine lv_ior hx hb d_pt_setCare_33 ?_
      refine g_put S hE.1 hG hp rfl in_pt ty_pt tyok_pt nm_pt 0 (by decide) tw_218 (fun _ h9 => h9) rfl (ty := .int) (by decide +kernel) rfl rfl (Nat.le_of_ble_eq_true rfl) d_pt_setCare_34 (fun H locs hG => ?_)
      have hG : gS (gA G s.heap.size) s.heap Z.1 cls (gup G h (.inr (3, [.int ((pca q) ||| pl), .int (pva q), .int (pmk q), .int (pfa q), .int (psd q), .int (pgn q)]))) H locs := hG
      generalize eG34 : gup G h (.inr (3, [.int ((pca q) ||| pl), .int (pva q), .int (pmk q), .int (pfa q), .int (psd q), .int (pgn q)])) = G34 at hG
      have f34 : G34 h = some (.inr (3, [.int ((pca q) ||| pl), .int (pva q), .int (pmk q), .int (pfa q), .int (psd q), .int (pgn q)])) := by rw [← eG34]; exact gup_self _ _ _
      refine lv_aload_n hx hb d_pt_setCare_37 rfl (lv_at hl 0 rfl) ?_
      refine lv_iload_n hx hb d_pt_setCare_38 rfl (lv_at hl 2 rfl) ?_
      refine lv_iconst (v := 1) hx hb d_pt_setCare_39 (by decide) ?_
      refine lv_icmp_ne (tgt := 52) hx hb d_pt_setCare_40 (by decide) (fun c40 => ?_) (fun c40 => ?_)
      · refine lv_aload_n hx hb d_pt_setCare_52 rfl (lv_at hl 0 rfl) ?_
        refine g_get S hE.1 hG.1 f34 rfl in_pt 1 (by decide) tw_220 (fun _ h9 => h9) rfl d_pt_setCare_53 ?_
        refine lv_iload_n hx hb d_pt_setCare_56 rfl (lv_at hl 1 rfl) ?_
        refine lv_iconst (v := (-1)) hx hb d_pt_setCare_57 (by decide) ?_
        refine lv_ixor hx hb d_pt_setCare_58 ?_
        refine lv_iand hx hb d_pt_setCare_59 ?_
        refine g_put S hE.1 hG f34 rfl in_pt ty_pt tyok_pt nm_pt 1 (by decide) tw_220 (fun _ h9 => h9) rfl (ty := .int) (by decide +kernel) rfl rfl (Nat.le_of_ble_eq_true rfl) d_pt_setCare_60 (fun H locs hG => ?_)
        have hG : gS (gA G s.heap.size) s.heap Z.1 cls (gup G34 h (.inr (3, [.int ((pca q) ||| pl), .int ((pva q) &&& (pl ^^^ (-1))), .int (pmk q), .int (pfa q), .int (psd q), .int (pgn q)]))) H locs := hG
        generalize eG60 : gup G34 h (.inr (3, [.int ((pca q) ||| pl), .int ((pva q) &&& (pl ^^^ (-1))), .int (pmk q), .int (pfa q), .int (psd q), .int (pgn q)])) = G60 at hG
        have f60 : G60 h = some (.inr (3, [.int ((pca q) ||| pl), .int ((pva q) &&& (pl ^^^ (-1))), .int (pmk q), .int (pfa q), .int (psd q), .int (pgn q)])) := by rw [← eG60]; exact gup_self _ _ _
        refine lv_aload_n hx hb d_pt_setCare_63 rfl (lv_at hl 0 rfl) ?_
        refine lv_iconst (v := (-1)) hx hb d_pt_setCare_64 (by decide) ?_
        refine g_put S hE.1 hG f60 rfl in_pt ty_pt tyok_pt nm_pt 4 (by decide) tw_226 (fun _ h9 => h9) rfl (ty := .int) (by decide +kernel) rfl rfl (Nat.le_of_ble_eq_true rfl) d_pt_setCare_65 (fun H locs hG => ?_)
        have hG : gS (gA G s.heap.size) s.heap Z.1 cls (gup G60 h (.inr (3, [.int ((pca q) ||| pl), .int ((pva q) &&& (pl ^^^ (-1))), .int (pmk q), .int (pfa q), .int (-1), .int (pgn q)]))) H locs := hG
        generalize eG65 : gup G60 h (.inr (3, [.int ((pca q) ||| pl), .int ((pva q) &&& (pl ^^^ (-1))), .int (pmk q), .int (pfa q), .int (-1), .int (pgn q)])) = G65 at hG
        have f65 : G65 h = some (.inr (3, [.int ((pca q) ||| pl), .int ((pva q) &&& (pl ^^^ (-1))), .int (pmk q), .int (pfa q), .int (-1), .int (pgn q)])) := by rw [← eG65]; exact gup_self _ _ _
        refine lv_iconst (v := 1) hx hb d_pt_setCare_68 (by decide) ?_
        refine W.widen (k := 0) (n := 0) (Nat.le_of_ble_eq_true rfl) (Nat.le_of_ble_eq_true rfl) ?_
        exact (W.zret hx hb hr rfl (fun t9 ht9 hW9 => ⟨⟨_, _, rfl, (Or.inr ⟨by rw [← h2]; exact c6, rfl, by first | (exfalso; rw [c14] at c40; exact absurd c40 (by decide)) | (rw [← eG65, ← eG60, ← eG34]; simp only [gup_gup]; simp [pfs, qcare, pca, pva, pmk, pfa, psd, pgn, *])⟩), by rw [ht9]; exact hG.1, hG.2.1⟩, hG.2.2.1.F ht9⟩) hG.2.2.1.2.2 d_pt_setCare_69)
      · refine lv_aload_n hx hb d_pt_setCare_43 rfl (lv_at hl 0 rfl) ?_
        refine g_get S hE.1 hG.1 f34 rfl in_pt 1 (by decide) tw_220 (fun _ h9 => h9) rfl d_pt_setCare_44 ?_
        refine lv_iload_n hx hb d_pt_setCare_47 rfl (lv_at hl 1 rfl) ?_
        refine lv_ior hx hb d_pt_setCare_48 ?_
        refine lv_goto (tgt := 60) hx hb d_pt_setCare_49 (by decide) ?_
        refine g_put S hE.1 hG f34 rfl in_pt ty_pt tyok_pt nm_pt 1 (by decide) tw_220 (fun _ h9 => h9) rfl (ty := .int) (by decide +kernel) rfl rfl (Nat.le_of_ble_eq_true rfl) d_pt_setCare_60 (fun H locs hG => ?_)
        have hG : gS (gA G s.heap.size) s.heap Z.1 cls (gup G34 h (.inr (3, [.int ((pca q) ||| pl), .int ((pva q) ||| pl), .int (pmk q), .int (pfa q), .int (psd q), .int (pgn q)]))) H locs := hG
        generalize eG60 : gup G34 h (.inr (3, [.int ((pca q) ||| pl), .int ((pva q) ||| pl), .int (pmk q), .int (pfa q), .int (psd q), .int (pgn q)])) = G60 at hG
        have f60 : G60 h = some (.inr (3, [.int ((pca q) ||| pl), .int ((pva q) ||| pl), .int (pmk q), .int (pfa q), .int (psd q), .int (pgn q)])) := by rw [← eG60]; exact gup_self _ _ _
        refine lv_aload_n hx hb d_pt_setCare_63 rfl (lv_at hl 0 rfl) ?_
        refine lv_iconst (v := (-1)) hx hb d_pt_setCare_64 (by decide) ?_
        refine g_put S hE.1 hG f60 rfl in_pt ty_pt tyok_pt nm_pt 4 (by decide) tw_226 (fun _ h9 => h9) rfl (ty := .int) (by decide +kernel) rfl rfl (Nat.le_of_ble_eq_true rfl) d_pt_setCare_65 (fun H locs hG => ?_)
        have hG : gS (gA G s.heap.size) s.heap Z.1 cls (gup G60 h (.inr (3, [.int ((pca q) ||| pl), .int ((pva q) ||| pl), .int (pmk q), .int (pfa q), .int (-1), .int (pgn q)]))) H locs := hG
        generalize eG65 : gup G60 h (.inr (3, [.int ((pca q) ||| pl), .int ((pva q) ||| pl), .int (pmk q), .int (pfa q), .int (-1), .int (pgn q)])) = G65 at hG
        have f65 : G65 h = some (.inr (3, [.int ((pca q) ||| pl), .int ((pva q) ||| pl), .int (pmk q), .int (pfa q), .int (-1), .int (pgn q)])) := by rw [← eG65]; exact gup_self _ _ _
        refine lv_iconst (v := 1) hx hb d_pt_setCare_68 (by decide) ?_
        refine W.widen (k := 0) (n := 0) (Nat.le_of_ble_eq_true rfl) (Nat.le_of_ble_eq_true rfl) ?_
        exact (W.zret hx hb hr rfl (fun t9 ht9 hW9 => ⟨⟨_, _, rfl, (Or.inr ⟨by rw [← h2]; exact c6, rfl, by first | (exfalso; rw [c14] at c40; exact absurd c40 (by decide)) | (rw [← eG65, ← eG60, ← eG34]; simp only [gup_gup]; simp [pfs, qcare, pca, pva, pmk, pfa, psd, pgn, *])⟩), by rw [ht9]; exact hG.1, hG.2.1⟩, hG.2.2.1.F ht9⟩) hG.2.2.1.2.2 d_pt_setCare_69)
    · refine lv_aload_n hx hb d_pt_setCare_17 rfl (lv_at hl 0 rfl) ?_
      refine g_get S hE.1 hG.1 hp rfl in_pt 0 (by decide) tw_218 (fun _ h9 => h9) rfl d_pt_setCare_18 ?_
      refine lv_iload_n hx hb d_pt_setCare_21 rfl (lv_at hl 1 rfl) ?_
      refine lv_iconst (v := (-1)) hx hb d_pt_setCare_22 (by decide) ?_
      refine lv_ixor hx hb d_pt_setCare_23 ?_
      refine lv_iand hx hb d_pt_setCare_24 ?_
      refine lv_goto (tgt := 34) hx hb d_pt_setCare_25 (by decide) ?_
      refine g_put S hE.1 hG hp rfl in_pt ty_pt tyok_pt nm_pt 0 (by decide) tw_218 (fun _ h9 => h9) rfl (ty := .int) (by decide +kernel) rfl rfl (Nat.le_of_ble_eq_true rfl) d_pt_setCare_34 (fun H locs hG => ?_)
      have hG : gS (gA G s.heap.size) s.heap Z.1 cls (gup G h (.inr (3, [.int ((pca q) &&& (pl ^^^ (-1))), .int (pva q), .int (pmk q), .int (pfa q), .int (psd q), .int (pgn q)]))) H locs := hG
      generalize eG34 : gup G h (.inr (3, [.int ((pca q) &&& (pl ^^^ (-1))), .int (pva q), .int (pmk q), .int (pfa q), .int (psd q), .int (pgn q)])) = G34 at hG
      have f34 : G34 h = some (.inr (3, [.int ((pca q) &&& (pl ^^^ (-1))), .int (pva q), .int (pmk q), .int (pfa q), .int (psd q), .int (pgn q)])) := by rw [← eG34]; exact gup_self _ _ _
      refine lv_aload_n hx hb d_pt_setCare_37 rfl (lv_at hl 0 rfl) ?_
      refine lv_iload_n hx hb d_pt_setCare_38 rfl (lv_at hl 2 rfl) ?_
      refine lv_iconst (v := 1) hx hb d_pt_setCare_39 (by decide) ?_
      refine lv_icmp_ne (tgt := 52) hx hb d_pt_setCare_40 (by decide) (fun c40 => ?_) (fun c40 => ?_)
      · refine lv_aload_n hx hb d_pt_setCare_52 rfl (lv_at hl 0 rfl) ?_
        refine g_get S hE.1 hG.1 f34 rfl in_pt 1 (by decide) tw_220 (fun _ h9 => h9) rfl d_pt_setCare_53 ?_
        refine lv_iload_n hx hb d_pt_setCare_56 rfl (lv_at hl 1 rfl) ?_
        refine lv_iconst (v := (-1)) hx hb d_pt_setCare_57 (by decide) ?_
        refine lv_ixor hx hb d_pt_setCare_58 ?_
        refine lv_iand hx hb d_pt_setCare_59 ?_
        refine g_put S hE.1 hG f34 rfl in_pt ty_pt tyok_pt nm_pt 1 (by decide) tw_220 (fun _ h9 => h9) rfl (ty := .int) (by decide +kernel) rfl rfl (Nat.le_of_ble_eq_true rfl) d_pt_setCare_60 (fun H locs hG => ?_)
        have hG : gS (gA G s.heap.size) s.heap Z.1 cls (gup G34 h (.inr (3, [.int ((pca q) &&& (pl ^^^ (-1))), .int ((pva q) &&& (pl ^^^ (-1))), .int (pmk q), .int (pfa q), .int (psd q), .int (pgn q)]))) H locs := hG
        generalize eG60 : gup G34 h (.inr (3, [.int ((pca q) &&& (pl ^^^ (-1))), .int ((pva q) &&& (pl ^^^ (-1))), .int (pmk q), .int (pfa q), .int (psd q), .int (pgn q)])) = G60 at hG
        have f60 : G60 h = some (.inr (3, [.int ((pca q) &&& (pl ^^^ (-1))), .int ((pva q) &&& (pl ^^^ (-1))), .int (pmk q), .int (pfa q), .int (psd q), .int (pgn q)])) := by rw [← eG60]; exact gup_self _ _ _
        refine lv_aload_n hx hb d_pt_setCare_63 rfl (lv_at hl 0 rfl) ?_
        refine lv_iconst (v := (-1)) hx hb d_pt_setCare_64 (by decide) ?_
        refine g_put S hE.1 hG f60 rfl in_pt ty_pt tyok_pt nm_pt 4 (by decide) tw_226 (fun _ h9 => h9) rfl (ty := .int) (by decide +kernel) rfl rfl (Nat.le_of_ble_eq_true rfl) d_pt_setCare_65 (fun H locs hG => ?_)
        have hG : gS (gA G s.heap.size) s.heap Z.1 cls (gup G60 h (.inr (3, [.int ((pca q) &&& (pl ^^^ (-1))), .int ((pva q) &&& (pl ^^^ (-1))), .int (pmk q), .int (pfa q), .int (-1), .int (pgn q)]))) H locs := hG
        generalize eG65 : gup G60 h (.inr (3, [.int ((pca q) &&& (pl ^^^ (-1))), .int ((pva q) &&& (pl ^^^ (-1))), .int (pmk q), .int (pfa q), .int (-1), .int (pgn q)])) = G65 at hG
        have f65 : G65 h = some (.inr (3, [.int ((pca q) &&& (pl ^^^ (-1))), .int ((pva q) &&& (pl ^^^ (-1))), .int (pmk q), .int (pfa q), .int (-1), .int (pgn q)])) := by rw [← eG65]; exact gup_self _ _ _
        refine lv_iconst (v := 1) hx hb d_pt_setCare_68 (by decide) ?_
        refine W.widen (k := 0) (n := 0) (Nat.le_of_ble_eq_true rfl) (Nat.le_of_ble_eq_true rfl) ?_
        exact (W.zret hx hb hr rfl (fun t9 ht9 hW9 => ⟨⟨_, _, rfl, (Or.inr ⟨by rw [← h2]; exact c6, rfl, by first | (exfalso; rw [c14] at c40; exact absurd c40 (by decide)) | (rw [← eG65, ← eG60, ← eG34]; simp only [gup_gup]; simp [pfs, qcare, pca, pva, pmk, pfa, psd, pgn, *])⟩), by rw [ht9]; exact hG.1, hG.2.1⟩, hG.2.2.1.F ht9⟩) hG.2.2.1.2.2 d_pt_setCare_69)
      · refine lv_aload_n hx hb d_pt_setCare_43 rfl (lv_at hl 0 rfl) ?_
        refine g_get S hE.1 hG.1 f34 rfl in_pt 1 (by decide) tw_220 (fun _ h9 => h9) rfl d_pt_setCare_44 ?_
        refine lv_iload_n hx hb d_pt_setCare_47 rfl (lv_at hl 1 rfl) ?_
        refine lv_ior hx hb d_pt_setCare_48 ?_
        refine lv_goto (tgt := 60) hx hb d_pt_setCare_49 (by decide) ?_
        refine g_put S hE.1 hG f34 rfl in_pt ty_pt tyok_pt nm_pt 1 (by decide) tw_220 (fun _ h9 => h9) rfl (ty := .int) (by decide +kernel) rfl rfl (Nat.le_of_ble_eq_true rfl) d_pt_setCare_60 (fun H locs hG => ?_)
        have hG : gS (gA G s.heap.size) s.heap Z.1 cls (gup G34 h (.inr (3, [.int ((pca q) &&& (pl ^^^ (-1))), .int ((pva q) ||| pl), .int (pmk q), .int (pfa q), .int (psd q), .int (pgn q)]))) H locs := hG
        generalize eG60 : gup G34 h (.inr (3, [.int ((pca q) &&& (pl ^^^ (-1))), .int ((pva q) ||| pl), .int (pmk q), .int (pfa q), .int (psd q), .int (pgn q)])) = G60 at hG
        have f60 : G60 h = some (.inr (3, [.int ((pca q) &&& (pl ^^^ (-1))), .int ((pva q) ||| pl), .int (pmk q), .int (pfa q), .int (psd q), .int (pgn q)])) := by rw [← eG60]; exact gup_self _ _ _
        refine lv_aload_n hx hb d_pt_setCare_63 rfl (lv_at hl 0 rfl) ?_
        refine lv_iconst (v := (-1)) hx hb d_pt_setCare_64 (by decide) ?_
        refine g_put S hE.1 hG f60 rfl in_pt ty_pt tyok_pt nm_pt 4 (by decide) tw_226 (fun _ h9 => h9) rfl (ty := .int) (by decide +kernel) rfl rfl (Nat.le_of_ble_eq_true rfl) d_pt_setCare_65 (fun H locs hG => ?_)
        have hG : gS (gA G s.heap.size) s.heap Z.1 cls (gup G60 h (.inr (3, [.int ((pca q) &&& (pl ^^^ (-1))), .int ((pva q) ||| pl), .int (pmk q), .int (pfa q), .int (-1), .int (pgn q)]))) H locs := hG
        generalize eG65 : gup G60 h (.inr (3, [.int ((pca q) &&& (pl ^^^ (-1))), .int ((pva q) ||| pl), .int (pmk q), .int (pfa q), .int (-1), .int (pgn q)])) = G65 at hG
        have f65 : G65 h = some (.inr (3, [.int ((pca q) &&& (pl ^^^ (-1))), .int ((pva q) ||| pl), .int (pmk q), .int (pfa q), .int (-1), .int (pgn q)])) := by rw [← eG65]; exact gup_self _ _ _
        refine lv_iconst (v := 1) hx hb d_pt_setCare_68 (by decide) ?_
        refine W.widen (k := 0) (n := 0) (Nat.le_of_ble_eq_true rfl) (Nat.le_of_ble_eq_true rfl) ?_
        exact (W.zret hx hb hr rfl (fun t9 ht9 hW9 => ⟨⟨_, _, rfl, (Or.inr ⟨by rw [← h2]; exact c6, rfl, by first | (exfalso; rw [c14] at c40; exact absurd c40 (by decide)) | (rw [← eG65, ← eG60, ← eG34]; simp only [gup_gup]; simp [pfs, qcare, pca, pva, pmk, pfa, psd, pgn, *])⟩), by rw [ht9]; exact hG.1, hG.2.1⟩, hG.2.2.1.F ht9⟩) hG.2.2.1.2.2 d_pt_setCare_69)
  · refine lv_iconst (v := 0) hx hb d_pt_setCare_9 (by decide) ?_
    refine W.widen (k := 0) (n := 0) (Nat.le_of_ble_eq_true rfl) (Nat.le_of_ble_eq_true rfl) ?_
    exact (W.zret hx hb hr rfl (fun t9 ht9 hW9 => ⟨⟨_, _, rfl, (Or.inl ⟨by rw [← h2]; exact c6, rfl, rfl⟩), by rw [ht9]; exact hG.1, hG.2.1⟩, hG.2.2.1.F ht9⟩) hG.2.2.1.2.2 d_pt_setCare_10)

set_option maxHeartbeats 4000000 in
set_option maxRecDepth 100000 in
theorem c_pt_take (l : Launch) (Z : gZ) (G : gh) (sz : Nat) (h : Nat) {q : Pat} (hp : G h = some (.inr (3, pfs q))) (h2 : Nat) {o : Pat} (hp2 : G h2 = some (.inr (3, pfs o))) (hne : h ≠ h2) : Met l y_pt_take (wd_pt_take :: Gall) ({ frames := 0, cells := 0, slots := 0, locals := 0 }) (va_Pc [.ref h, .ref h2] (gPw Z G sz)) (va_Qv (fun (G9 : gh) => G9 = gup (gup G h (.inr (3, pfs (qtake q o)))) h2 (.inr (3, pfs (qgn o 1)))) (gW Z G sz) (gA G sz)) 0 0 (gA G sz) := by
  refine Met.ofW (cc := b_pt_take) (maxL := 2) (ret := none) (by decide) rfl ?_
  intro p e s m args below meth c s₁ B hml hv
  obtain ⟨rfl, hsz, hG, hE⟩ := hv
  subst hsz
  have hx := B.exec
  have hb := B.bytes
  have hr := B.returns
  have hlocks := B.notSynchronized
  have S : CallFix p m c b_pt_take 2 s _ Gall "PackSeeds$Pattern" := ⟨hx, hb, hml, findClass_of_methodNamed B.named, fun w hw => atoms_spec (ws := wd_pt_take :: Gall) B.pre w (List.mem_cons_of_mem _ hw)⟩
  have hG : gS (gA G s.heap.size) s.heap Z.1 cls G s.heap [] := gS.start hG
  have hl := lv_entry ([.ref h, .ref h2]) (n := 2) (Nat.le_of_ble_eq_true rfl)
  rw [lg_entry_eq]
  generalize (lg_sl ([.ref h, .ref h2]) ++ List.replicate (2 - (lg_sl ([.ref h, .ref h2])).length) Slot.unset).toArray = ls at hl ⊢
  have hl : lv_has ls 2 [(0, .ref h), (1, .ref h2)] := hl
  refine lv_aload_n hx hb d_pt_take_0 rfl (lv_at hl 0 rfl) ?_
  refine lv_dup hx hb d_pt_take_1 rfl ?_
  refine g_get S hE.1 hG.1 hp rfl in_pt 0 (by decide) tw_218 (fun _ h9 => h9) rfl d_pt_take_2 ?_
  refine lv_aload_n hx hb d_pt_take_5 rfl (lv_at hl 1 rfl) ?_
  refine g_get S hE.1 hG.1 hp2 rfl in_pt 0 (by decide) tw_218 (fun _ h9 => h9) rfl d_pt_take_6 ?_
  refine lv_ior hx hb d_pt_take_9 ?_
  refine g_put S hE.1 hG hp rfl in_pt ty_pt tyok_pt nm_pt 0 (by decide) tw_218 (fun _ h9 => h9) rfl (ty := .int) (by decide +kernel) rfl rfl (Nat.le_of_ble_eq_true rfl) d_pt_take_10 (fun H locs hG => ?_)
  have hG : gS (gA G s.heap.size) s.heap Z.1 cls (gup G h (.inr (3, [.int ((pca q) ||| (pca o)), .int (pva q), .int (pmk q), .int (pfa q), .int (psd q), .int (pgn q)]))) H locs := hG
  generalize eG10 : gup G h (.inr (3, [.int ((pca q) ||| (pca o)), .int (pva q), .int (pmk q), .int (pfa q), .int (psd q), .int (pgn q)])) = G10 at hG
  have f10_h2 : G10 h2 = some (.inr (3, [.int (pca o), .int (pva o), .int (pmk o), .int (pfa o), .int (psd o), .int (pgn o)])) := by rw [← eG10]; exact (gup_ne _ _ (Ne.symm hne)).trans hp2
  have f10 : G10 h = some (.inr (3, [.int ((pca q) ||| (pca o)), .int (pva q), .int (pmk q), .int (pfa q), .int (psd q), .int (pgn q)])) := by rw [← eG10]; exact gup_self _ _ _
  refine lv_aload_n hx hb d_pt_take_13 rfl (lv_at hl 0 rfl) ?_
  refine lv_dup hx hb d_pt_take_14 rfl ?_
  refine g_get S hE.1 hG.1 f10 rfl in_pt 1 (by decide) tw_220 (fun _ h9 => h9) rfl d_pt_take_15 ?_
  refine lv_aload_n hx hb d_pt_take_18 rfl (lv_at hl 1 rfl) ?_
  refine g_get S hE.1 hG.1 f10_h2 rfl in_pt 1 (by decide) tw_220 (fun _ h9 => h9) rfl d_pt_take_19 ?_
  refine lv_ior hx hb d_pt_take_22 ?_
  refine g_put S hE.1 hG f10 rfl in_pt ty_pt tyok_pt nm_pt 1 (by decide) tw_220 (fun _ h9 => h9) rfl (ty := .int) (by decide +kernel) rfl rfl (Nat.le_of_ble_eq_true rfl) d_pt_take_23 (fun H locs hG => ?_)
  have hG : gS (gA G s.heap.size) s.heap Z.1 cls (gup G10 h (.inr (3, [.int ((pca q) ||| (pca o)), .int ((pva q) ||| (pva o)), .int (pmk q), .int (pfa q), .int (psd q), .int (pgn q)]))) H locs := hG
  generalize eG23 : gup G10 h (.inr (3, [.int ((pca q) ||| (pca o)), .int ((pva q) ||| (pva o)), .int (pmk q), .int (pfa q), .int (psd q), .int (pgn q)])) = G23 at hG
  have f23_h2 : G23 h2 = some (.inr (3, [.int (pca o), .int (pva o), .int (pmk o), .int (pfa o), .int (psd o), .int (pgn o)])) := by rw [← eG23]; exact (gup_ne _ _ (Ne.symm hne)).trans f10_h2
  have f23 : G23 h = some (.inr (3, [.int ((pca q) ||| (pca o)), .int ((pva q) ||| (pva o)), .int (pmk q), .int (pfa q), .int (psd q), .int (pgn q)])) := by rw [← eG23]; exact gup_self _ _ _
  refine lv_aload_n hx hb d_pt_take_26 rfl (lv_at hl 0 rfl) ?_
  refine lv_dup hx hb d_pt_take_27 rfl ?_
  refine g_get S hE.1 hG.1 f23 rfl in_pt 2 (by decide) tw_222 (fun _ h9 => h9) rfl d_pt_take_28 ?_
  refine lv_aload_n hx hb d_pt_take_31 rfl (lv_at hl 1 rfl) ?_
  refine g_get S hE.1 hG.1 f23_h2 rfl in_pt 2 (by decide) tw_222 (fun _ h9 => h9) rfl d_pt_take_32 ?_
  refine lv_ior hx hb d_pt_take_35 ?_
  refine g_put S hE.1 hG f23 rfl in_pt ty_pt tyok_pt nm_pt 2 (by decide) tw_222 (fun _ h9 => h9) rfl (ty := .int) (by decide +kernel) rfl rfl (Nat.le_of_ble_eq_true rfl) d_pt_take_36 (fun H locs hG => ?_)
  have hG : gS (gA G s.heap.size) s.heap Z.1 cls (gup G23 h (.inr (3, [.int ((pca q) ||| (pca o)), .int ((pva q) ||| (pva o)), .int ((pmk q) ||| (pmk o)), .int (pfa q), .int (psd q), .int (pgn q)]))) H locs := hG
  generalize eG36 : gup G23 h (.inr (3, [.int ((pca q) ||| (pca o)), .int ((pva q) ||| (pva o)), .int ((pmk q) ||| (pmk o)), .int (pfa q), .int (psd q), .int (pgn q)])) = G36 at hG
  have f36_h2 : G36 h2 = some (.inr (3, [.int (pca o), .int (pva o), .int (pmk o), .int (pfa o), .int (psd o), .int (pgn o)])) := by rw [← eG36]; exact (gup_ne _ _ (Ne.symm hne)).trans f23_h2
  have f36 : G36 h = some (.inr (3, [.int ((pca q) ||| (pca o)), .int ((pva q) ||| (pva o)), .int ((pmk q) ||| (pmk o)), .int (pfa q), .int (psd q), .int (pgn q)])) := by rw [← eG36]; exact gup_self _ _ _
  refine lv_aload_n hx hb d_pt_take_39 rfl (lv_at hl 0 rfl) ?_
  refine lv_dup hx hb d_pt_take_40 rfl ?_
  refine g_get S hE.1 hG.1 f36 rfl in_pt 3 (by decide) tw_224 (fun _ h9 => h9) rfl d_pt_take_41 ?_
  refine lv_aload_n hx hb d_pt_take_44 rfl (lv_at hl 1 rfl) ?_
  refine g_get S hE.1 hG.1 f36_h2 rfl in_pt 3 (by decide) tw_224 (fun _ h9 => h9) rfl d_pt_take_45 ?_
  refine lv_ior hx hb d_pt_take_48 ?_
  refine g_put S hE.1 hG f36 rfl in_pt ty_pt tyok_pt nm_pt 3 (by decide) tw_224 (fun _ h9 => h9) rfl (ty := .int) (by decide +kernel) rfl rfl (Nat.le_of_ble_eq_true rfl) d_pt_take_49 (fun H locs hG => ?_)
  have hG : gS (gA G s.heap.size) s.heap Z.1 cls (gup G36 h (.inr (3, [.int ((pca q) ||| (pca o)), .int ((pva q) ||| (pva o)), .int ((pmk q) ||| (pmk o)), .int ((pfa q) ||| (pfa o)), .int (psd q), .int (pgn q)]))) H locs := hG
  generalize eG49 : gup G36 h (.inr (3, [.int ((pca q) ||| (pca o)), .int ((pva q) ||| (pva o)), .int ((pmk q) ||| (pmk o)), .int ((pfa q) ||| (pfa o)), .int (psd q), .int (pgn q)])) = G49 at hG
  have f49_h2 : G49 h2 = some (.inr (3, [.int (pca o), .int (pva o), .int (pmk o), .int (pfa o), .int (psd o), .int (pgn o)])) := by rw [← eG49]; exact (gup_ne _ _ (Ne.symm hne)).trans f36_h2
  have f49 : G49 h = some (.inr (3, [.int ((pca q) ||| (pca o)), .int ((pva q) ||| (pva o)), .int ((pmk q) ||| (pmk o)), .int ((pfa q) ||| (pfa o)), .int (psd q), .int (pgn q)])) := by rw [← eG49]; exact gup_self _ _ _
  refine lv_aload_n hx hb d_pt_take_52 rfl (lv_at hl 0 rfl) ?_
  refine lv_iconst (v := (-1)) hx hb d_pt_take_53 (by decide) ?_
  refine g_put S hE.1 hG f49 rfl in_pt ty_pt tyok_pt nm_pt 4 (by decide) tw_226 (fun _ h9 => h9) rfl (ty := .int) (by decide +kernel) rfl rfl (Nat.le_of_ble_eq_true rfl) d_pt_take_54 (fun H locs hG => ?_)
  have hG : gS (gA G s.heap.size) s.heap Z.1 cls (gup G49 h (.inr (3, [.int ((pca q) ||| (pca o)), .int ((pva q) ||| (pva o)), .int ((pmk q) ||| (pmk o)), .int ((pfa q) ||| (pfa o)), .int (-1), .int (pgn q)]))) H locs := hG
  generalize eG54 : gup G49 h (.inr (3, [.int ((pca q) ||| (pca o)), .int ((pva q) ||| (pva o)), .int ((pmk q) ||| (pmk o)), .int ((pfa q) ||| (pfa o)), .int (-1), .int (pgn q)])) = G54 at hG
  have f54_h2 : G54 h2 = some (.inr (3, [.int (pca o), .int (pva o), .int (pmk o), .int (pfa o), .int (psd o), .int (pgn o)])) := by rw [← eG54]; exact (gup_ne _ _ (Ne.symm hne)).trans f49_h2
  have f54 : G54 h = some (.inr (3, [.int ((pca q) ||| (pca o)), .int ((pva q) ||| (pva o)), .int ((pmk q) ||| (pmk o)), .int ((pfa q) ||| (pfa o)), .int (-1), .int (pgn q)])) := by rw [← eG54]; exact gup_self _ _ _
  refine lv_aload_n hx hb d_pt_take_57 rfl (lv_at hl 1 rfl) ?_
  refine lv_iconst (v := 1) hx hb d_pt_take_58 (by decide) ?_
  refine g_put S hE.1 hG f54_h2 rfl in_pt ty_pt tyok_pt nm_pt 5 (by decide) tw_228 (fun _ h9 => h9) rfl (ty := .boolean) (by decide +kernel) rfl rfl (Nat.le_of_ble_eq_true rfl) d_pt_take_59 (fun H locs hG => ?_)
  have hG : gS (gA G s.heap.size) s.heap Z.1 cls (gup G54 h2 (.inr (3, [.int (pca o), .int (pva o), .int (pmk o), .int (pfa o), .int (psd o), .int 1]))) H locs := hG
  generalize eG59 : gup G54 h2 (.inr (3, [.int (pca o), .int (pva o), .int (pmk o), .int (pfa o), .int (psd o), .int 1])) = G59 at hG
  have f59_h : G59 h = some (.inr (3, [.int ((pca q) ||| (pca o)), .int ((pva q) ||| (pva o)), .int ((pmk q) ||| (pmk o)), .int ((pfa q) ||| (pfa o)), .int (-1), .int (pgn q)])) := by rw [← eG59]; exact (gup_ne _ _ hne).trans f54
  have f59 : G59 h2 = some (.inr (3, [.int (pca o), .int (pva o), .int (pmk o), .int (pfa o), .int (psd o), .int 1])) := by rw [← eG59]; exact gup_self _ _ _
  refine W.widen (k := 0) (n := 0) (Nat.le_of_ble_eq_true rfl) (Nat.le_of_ble_eq_true rfl) ?_
  exact (W.vret hx hb hr (fun t9 ht9 hW9 => ⟨⟨_, rfl, (by rw [← eG59, ← eG54, ← eG49, ← eG36, ← eG23, ← eG10]; simp only [gup_gup]; rfl), by rw [ht9]; exact hG.1, hG.2.1⟩, hG.2.2.1.F ht9⟩) hG.2.2.1.2.2 d_pt_take_62)

set_option maxHeartbeats 4000000 in
set_option maxRecDepth 100000 in
theorem c_ma_restart (l : Launch) (Z : gZ) (G : gh) (sz : Nat) (h : Nat) {sh ro : Nat} {stg tp : Int32} (hm : G h = some (.inr (2, [.ref sh, .ref ro, .int stg, .int tp]))) (d : Int32) : Met l y_ma_restart (wd_ma_restart :: Gall) ({ frames := 0, cells := 0, slots := 0, locals := 0 }) (va_Pc [.ref h, .int d] (gPw Z G sz)) (va_Qv (fun (G9 : gh) => G9 = gup G h (.inr (2, [.ref sh, .ref ro, .int d, .int ((1 : Int32) <<< ((d - 1) &&& 31))]))) (gW Z G sz) (gA G sz)) 0 0 (gA G sz) := by
  refine Met.ofW (cc := b_ma_restart) (maxL := 2) (ret := none) (by decide) rfl ?_
  intro p e s m args below meth c s₁ B hml hv
  obtain ⟨rfl, hsz, hG, hE⟩ := hv
  subst hsz
  have hx := B.exec
  have hb := B.bytes
  have hr := B.returns
  have hlocks := B.notSynchronized
  have S : CallFix p m c b_ma_restart 2 s _ Gall "PackSeeds$Machine" := ⟨hx, hb, hml, findClass_of_methodNamed B.named, fun w hw => atoms_spec (ws := wd_ma_restart :: Gall) B.pre w (List.mem_cons_of_mem _ hw)⟩
  have hG : gS (gA G s.heap.size) s.heap Z.1 cls G s.heap [] := gS.start hG
  have hl := lv_entry ([.ref h, .int d]) (n := 2) (Nat.le_of_ble_eq_true rfl)
  rw [lg_entry_eq]
  generalize (lg_sl ([.ref h, .int d]) ++ List.replicate (2 - (lg_sl ([.ref h, .int d])).length) Slot.unset).toArray = ls at hl ⊢
  have hl : lv_has ls 2 [(0, .ref h), (1, .int d)] := hl
  refine lv_aload_n hx hb d_ma_restart_0 rfl (lv_at hl 0 rfl) ?_
  refine lv_iload_n hx hb d_ma_restart_1 rfl (lv_at hl 1 rfl) ?_
  refine g_put S hE.1 hG hm rfl in_ma ty_ma tyok_ma nm_ma 2 (by decide) tw_53 (fun _ h9 => h9) rfl (ty := .int) (by decide +kernel) rfl rfl (Nat.le_of_ble_eq_true rfl) d_ma_restart_2 (fun H locs hG => ?_)
  have hG : gS (gA G s.heap.size) s.heap Z.1 cls (gup G h (.inr (2, [.ref sh, .ref ro, .int d, .int tp]))) H locs := hG
  generalize eG2 : gup G h (.inr (2, [.ref sh, .ref ro, .int d, .int tp])) = G2 at hG
  have f2 : G2 h = some (.inr (2, [.ref sh, .ref ro, .int d, .int tp])) := by rw [← eG2]; exact gup_self _ _ _
  refine lv_aload_n hx hb d_ma_restart_5 rfl (lv_at hl 0 rfl) ?_
  refine lv_iconst (v := 1) hx hb d_ma_restart_6 (by decide) ?_
  refine lv_iload_n hx hb d_ma_restart_7 rfl (lv_at hl 1 rfl) ?_
  refine lv_iconst (v := 1) hx hb d_ma_restart_8 (by decide) ?_
  refine lv_isub hx hb d_ma_restart_9 ?_
  refine lv_ishl hx hb d_ma_restart_10 ?_
  refine g_put S hE.1 hG f2 rfl in_ma ty_ma tyok_ma nm_ma 3 (by decide) tw_55 (fun _ h9 => h9) rfl (ty := .int) (by decide +kernel) rfl rfl (Nat.le_of_ble_eq_true rfl) d_ma_restart_11 (fun H locs hG => ?_)
  have hG : gS (gA G s.heap.size) s.heap Z.1 cls (gup G2 h (.inr (2, [.ref sh, .ref ro, .int d, .int (1 <<< ((d - 1) &&& 31))]))) H locs := hG
  generalize eG11 : gup G2 h (.inr (2, [.ref sh, .ref ro, .int d, .int (1 <<< ((d - 1) &&& 31))])) = G11 at hG
  have f11 : G11 h = some (.inr (2, [.ref sh, .ref ro, .int d, .int (1 <<< ((d - 1) &&& 31))])) := by rw [← eG11]; exact gup_self _ _ _
  refine W.widen (k := 0) (n := 0) (Nat.le_of_ble_eq_true rfl) (Nat.le_of_ble_eq_true rfl) ?_
  exact (W.vret hx hb hr (fun t9 ht9 hW9 => ⟨⟨_, rfl, (by rw [← eG11, ← eG2]; simp only [gup_gup]), by rw [ht9]; exact hG.1, hG.2.1⟩, hG.2.2.1.F ht9⟩) hG.2.2.1.2.2 d_ma_restart_14)

set_option maxHeartbeats 4000000 in
set_option maxRecDepth 100000 in
theorem c_ma_turnTap (l : Launch) (Z : gZ) (G : gh) (sz : Nat) (h : Nat) {sh ro : Nat} {stg tp : Int32} (hm : G h = some (.inr (2, [.ref sh, .ref ro, .int stg, .int tp]))) (d : Int32) : Met l y_ma_turnTap (wd_ma_turnTap :: Gall) ({ frames := 0, cells := 0, slots := 0, locals := 0 }) (va_Pc [.ref h, .int d] (gPw Z G sz)) (va_Qv (fun (G9 : gh) => G9 = gup G h (.inr (2, [.ref sh, .ref ro, .int stg, .int (tp ^^^ ((1 : Int32) <<< (d &&& 31)))]))) (gW Z G sz) (gA G sz)) 0 0 (gA G sz) := by
  refine Met.ofW (cc := b_ma_turnTap) (maxL := 2) (ret := none) (by decide) rfl ?_
  intro p e s m args below meth c s₁ B hml hv
  obtain ⟨rfl, hsz, hG, hE⟩ := hv
  subst hsz
  have hx := B.exec
  have hb := B.bytes
  have hr := B.returns
  have hlocks := B.notSynchronized
  have S : CallFix p m c b_ma_turnTap 2 s _ Gall "PackSeeds$Machine" := ⟨hx, hb, hml, findClass_of_methodNamed B.named, fun w hw => atoms_spec (ws := wd_ma_turnTap :: Gall) B.pre w (List.mem_cons_of_mem _ hw)⟩
  have hG : gS (gA G s.heap.size) s.heap Z.1 cls G s.heap [] := gS.start hG
  have hl := lv_entry ([.ref h, .int d]) (n := 2) (Nat.le_of_ble_eq_true rfl)
  rw [lg_entry_eq]
  generalize (lg_sl ([.ref h, .int d]) ++ List.replicate (2 - (lg_sl ([.ref h, .int d])).length) Slot.unset).toArray = ls at hl ⊢
  have hl : lv_has ls 2 [(0, .ref h), (1, .int d)] := hl
  refine lv_aload_n hx hb d_ma_turnTap_0 rfl (lv_at hl 0 rfl) ?_
  refine lv_dup hx hb d_ma_turnTap_1 rfl ?_
  refine g_get S hE.1 hG.1 hm rfl in_ma 3 (by decide) tw_55 (fun _ h9 => h9) rfl d_ma_turnTap_2 ?_
  refine lv_iconst (v := 1) hx hb d_ma_turnTap_5 (by decide) ?_
  refine lv_iload_n hx hb d_ma_turnTap_6 rfl (lv_at hl 1 rfl) ?_
  refine lv_ishl hx hb d_ma_turnTap_7 ?_
  refine lv_ixor hx hb d_ma_turnTap_8 ?_
  refine g_put S hE.1 hG hm rfl in_ma ty_ma tyok_ma nm_ma 3 (by decide) tw_55 (fun _ h9 => h9) rfl (ty := .int) (by decide +kernel) rfl rfl (Nat.le_of_ble_eq_true rfl) d_ma_turnTap_9 (fun H locs hG => ?_)
  have hG : gS (gA G s.heap.size) s.heap Z.1 cls (gup G h (.inr (2, [.ref sh, .ref ro, .int stg, .int (tp ^^^ (1 <<< (d &&& 31)))]))) H locs := hG
  generalize eG9 : gup G h (.inr (2, [.ref sh, .ref ro, .int stg, .int (tp ^^^ (1 <<< (d &&& 31)))])) = G9 at hG
  have f9 : G9 h = some (.inr (2, [.ref sh, .ref ro, .int stg, .int (tp ^^^ (1 <<< (d &&& 31)))])) := by rw [← eG9]; exact gup_self _ _ _
  refine W.widen (k := 0) (n := 0) (Nat.le_of_ble_eq_true rfl) (Nat.le_of_ble_eq_true rfl) ?_
  exact (W.vret hx hb hr (fun t9 ht9 hW9 => ⟨⟨_, rfl, (by rw [← eG9]), by rw [ht9]; exact hG.1, hG.2.1⟩, hG.2.2.1.F ht9⟩) hG.2.2.1.2.2 d_ma_turnTap_12)

set_option maxHeartbeats 4000000 in
set_option maxRecDepth 100000 in
theorem c_ma_keep (l : Launch) (Z : gZ) (G : gh) (sz : Nat) (h : Nat) {sh ro : Nat} {stg tp : Int32} (hm : G h = some (.inr (2, [.ref sh, .ref ro, .int stg, .int tp]))) {rw : Nat → Int64} (hro : G ro = some (.inl (Z.2 0, 48, .inr (.inl rw)))) (row : Int64) : Met l y_ma_keep (wd_ma_keep :: Gall) ({ frames := 0, cells := 0, slots := 0, locals := 0 }) (va_Pc [.ref h, .long row] (gPw Z G sz)) (va_Qv (fun (G9 : gh) => G9 = gup G ro (.inl (Z.2 0, 48, .inr (.inl (keepC row rw 32))))) (gW Z G sz) (gA G sz)) 0 0 (gA G sz) := by
  refine Met.ofW (cc := b_ma_keep) (maxL := 4) (ret := none) (by decide) rfl ?_
  intro p e s m args below meth c s₁ B hml hv
  obtain ⟨rfl, hsz, hG, hE⟩ := hv
  subst hsz
  have hx := B.exec
  have hb := B.bytes
  have hr := B.returns
  have hlocks := B.notSynchronized
  have S : CallFix p m c b_ma_keep 4 s _ Gall "PackSeeds$Machine" := ⟨hx, hb, hml, findClass_of_methodNamed B.named, fun w hw => atoms_spec (ws := wd_ma_keep :: Gall) B.pre w (List.mem_cons_of_mem _ hw)⟩
  have hG : gS (gA G s.heap.size) s.heap Z.1 cls G s.heap [] := gS.start hG
  have hl := lv_entry ([.ref h, .long row]) (n := 4) (Nat.le_of_ble_eq_true rfl)
  rw [lg_entry_eq]
  generalize (lg_sl ([.ref h, .long row]) ++ List.replicate (4 - (lg_sl ([.ref h, .long row])).length) Slot.unset).toArray = ls at hl ⊢
  have hl : lv_has ls 4 [(0, .ref h), (1, .long row)] := hl
  refine lv_aload_n hx hb d_ma_keep_0 rfl (lv_at hl 0 rfl) ?_
  refine g_get S hE.1 hG.1 hm rfl in_ma 1 (by decide) tw_52 (fun _ h9 => h9) rfl d_ma_keep_1 ?_
  refine g_alen S hE.1 hG.1 hro 0 rfl (v := nI 48) rfl d_ma_keep_4 ?_
  refine lv_iconst (v := 1) hx hb d_ma_keep_5 (by decide) ?_
  refine lv_isub hx hb d_ma_keep_6 ?_
  refine g_topi (y := nI (32 + 15)) rfl ?_
  refine lv_istore_n (lv' := [(3, .int (nI (32 + 15))), (0, .ref h), (1, .long row)]) hx hb d_ma_keep_7 rfl hl (by decide) rfl (fun ls hl => ?_)
  refine g_ind (V := Nat) (fun k ls => (k ≤ 32 ∧ keepC row rw 32 = keepC row rw k) ∧ lv_has ls 4 [(0, .ref h), (1, .long row), (3, .int (nI (k + 15)))]) (fun k => k) ?_ 32 _ ⟨⟨Nat.le_refl _, rfl⟩, lv_sub hl [1, 2, 0] rfl⟩
  intro v ls hI ih8
  obtain ⟨k, hvv⟩ : ∃ y, y = v := ⟨_, rfl⟩
  subst hvv
  obtain ⟨⟨hk, hv⟩, hl⟩ := hI
  refine lv_iload_n hx hb d_ma_keep_8 rfl (lv_at hl 2 rfl) ?_
  refine lv_bipush (v := nI 16) hx hb d_ma_keep_9 (by decide) ?_
  refine g_lt (tgt := 38) hx hb d_ma_keep_11 (by decide) (by omega) (by omega) (fun c11 => ?_) (fun c11 => ?_)
  · refine W.widen (k := 0) (n := 0) (Nat.le_of_ble_eq_true rfl) (Nat.le_of_ble_eq_true rfl) ?_
    exact (W.vret hx hb hr (fun t9 ht9 hW9 => ⟨⟨_, rfl, (by rw [hv, show k = 0 by omega]; exact (gup_same hro).symm), by rw [ht9]; exact hG.1, hG.2.1⟩, hG.2.2.1.F ht9⟩) hG.2.2.1.2.2 d_ma_keep_38)
  · obtain ⟨k1, rfl⟩ : ∃ k1, k = k1 + 1 := ⟨k - 1, by omega⟩
    refine lv_lload_n hx hb d_ma_keep_14 rfl (lv_at hl 1 rfl) ?_
    refine lv_iload_n hx hb d_ma_keep_15 rfl (lv_at hl 2 rfl) ?_
    refine lv_lshr hx hb d_ma_keep_16 rfl ?_
    refine lv_lconst (v := 1) hx hb d_ma_keep_17 (by decide) ?_
    refine lv_land hx hb d_ma_keep_18 ?_
    refine lv_lconst (v := 0) hx hb d_ma_keep_19 (by decide) ?_
    refine W.lcmp hx hb d_ma_keep_20 ?_
    refine lv_if_eq (tgt := 32) hx hb d_ma_keep_21 (by decide) (fun c21 => ?_) (fun c21 => ?_)
    · refine lv_iinc (v := nI (k1 + 15)) (lv' := [(3, .int (nI (k1 + 15))), (0, .ref h), (1, .long row)]) hx hb d_ma_keep_32 hl (k := 2) rfl (show nI (k1 + 1 + 15) + (-1) = nI (k1 + 15) from pk_m1 (k1 + 15)) (by decide) rfl (fun ls hl => ?_)
      refine lv_goto (tgt := 8) hx hb d_ma_keep_35 (by decide) ?_
      exact ih8 k1 _ ⟨⟨by omega, by
          have e9 : lbit row (k1 + 16) = 0 := (lg_cmp_eq _ _).mp c21
          rw [hv, keepC, if_pos e9]⟩, lv_sub hl [1, 2, 0] rfl⟩ (by first | omega | (simp only []; omega))
    · refine lv_aload_n hx hb d_ma_keep_24 rfl (lv_at hl 0 rfl) ?_
      refine g_get S hE.1 hG.1 hm rfl in_ma 1 (by decide) tw_52 (fun _ h9 => h9) rfl d_ma_keep_25 ?_
      refine lv_iload_n hx hb d_ma_keep_28 rfl (lv_at hl 2 rfl) ?_
      refine lv_lload_n hx hb d_ma_keep_29 rfl (lv_at hl 1 rfl) ?_
      refine g_last S hE.1 hG hro 0 rfl (vp_in_nI (by omega) (by omega)) d_ma_keep_30 (fun H locs hG => ?_)
      rw [nI_clamp (show (k1 + 1 + 15) < 2 ^ 31 by omega)] at hG
      have hG : gS (gA G s.heap.size) s.heap Z.1 cls (gup G ro (.inl (Z.2 0, 48, .inr (.inl (vp_updL rw (k1 + 1 + 15) row))))) H locs := hG
      generalize eG30 : gup G ro (.inl (Z.2 0, 48, .inr (.inl (vp_updL rw (k1 + 1 + 15) row)))) = G30 at hG
      have f30_h : G30 h = some (.inr (2, [.ref sh, .ref ro, .int stg, .int tp])) := by rw [← eG30]; exact gup_keep hro hm (by simp)
      have f30 : G30 ro = some (.inl (Z.2 0, 48, .inr (.inl (vp_updL rw (k1 + 1 + 15) row)))) := by rw [← eG30]; exact gup_self _ _ _
      refine W.widen (k := 0) (n := 0) (Nat.le_of_ble_eq_true rfl) (Nat.le_of_ble_eq_true rfl) ?_
      exact (W.vret hx hb hr (fun t9 ht9 hW9 => ⟨⟨_, rfl, (by
          have e9 : ¬ lbit row (k1 + 16) = 0 := fun z => c21 ((lg_cmp_eq _ _).mpr z)
          rw [hv, keepC, if_neg e9, ← eG30]), by rw [ht9]; exact hG.1, hG.2.1⟩, hG.2.2.1.F ht9⟩) hG.2.2.1.2.2 d_ma_keep_31)
