set_option maxHeartbeats 600000 in
set_option maxRecDepth 100000 in
theorem c_la_seedOf (l : Launch) (hl9 : l.stackTraces = false) (Z : gZ) (G : gh) (sz : Nat) (x o : Nat) {C E M D : Nat} {fk tp : Int32} {pt : Nat → Option Nat} {pd : Nat → Pat} {ov : Nat → Int64} (hcl : clQ Z G x C E M D fk tp pt pd) (ho : G o = some (.inl (Z.2 0, 1, .inr (.inl ov)))) (hbd : C ≤ 4 ∧ E ≤ 8 ∧ 1 ≤ D ∧ D ≤ 16 ∧ M ≤ 24) (n : Int32) : Met l y_la_seedOf (wd_la_seedOf :: Gall) ({ frames := 8, cells := 1, slots := 6, locals := 133 }) (va_Pc [.ref x, .int n, .ref o] (gPy Z G sz)) (va_Qi (fun (r : Int32) (G9 : gh) => ∃ ov9, G9 o = some (.inl (Z.2 0, 1, .inr (.inl ov9))) ∧ kX mE G G9 ∧ ((r = 1 ∧ (∀ j, ¬ okP pt pd n j) ∧ clQ Z G9 x C E M D fk tp pt pd) ∨ (r = 0 ∧ ∃ r9 : Int32, ov9 0 = r9.toInt64 ∧ (∃ j, okP pt pd n j ∧ clQ Z G9 x C E M D fk tp pt pd ∧ r9 = psd (pd j))))) (gW Z G sz) (gA G sz)) 1 6 (gA G sz) := by
  refine va_MetW (cc := b_la_seedOf) (maxL := 4) (ret := (some .int)) (hh := hh_la_seedOf) (by decide) rfl ?_
  intro p e s m args below meth c s₁ B hml hv
  obtain ⟨rfl, hN, hsz, ⟨hG, hE⟩, hX⟩ := hv
  subst hsz
  have hx := B.exec
  have hb := B.bytes
  have hr := B.returns
  have hlocks := B.notSynchronized
  have S : CallFix p m c b_la_seedOf 4 s _ Gall "PackSeedsLaw" := ⟨hx, hb, hml, findClass_of_methodNamed B.named, fun w hw => atoms_spec (ws := wd_la_seedOf :: Gall) B.pre w (List.mem_cons_of_mem _ hw)⟩
  have htab : c.exceptionTable.toList = tableOf hh_la_seedOf := vx_table (x := y_la_seedOf) B (atoms_spec (ws := wd_la_seedOf :: Gall) B.pre _ List.mem_cons_self)
  have hG : gS (gA G s.heap.size) s.heap Z.1 cls G s.heap [] := gS.start hG
  obtain ⟨hC, hE8, hD0, hD, hM⟩ := hbd
  obtain ⟨sh, ma, ro, pa, rw, hc⟩ := id hcl
  obtain ⟨fx, fs, fm, fro, fpa, hpt, hinj⟩ := id hc
  have hl := lv_entry ([.ref x, .int n, .ref o]) (n := 4) (Nat.le_of_ble_eq_true rfl)
  rw [lg_entry_eq]
  generalize (lg_sl ([.ref x, .int n, .ref o]) ++ List.replicate (4 - (lg_sl ([.ref x, .int n, .ref o])).length) Slot.unset).toArray = ls at hl ⊢
  have hl : lv_has ls 4 [(0, .ref x), (1, .int n), (2, .ref o)] := hl
  refine lv_aload_n hx hb d_la_seedOf_0 rfl (lv_at hl 2 rfl) ?_
  refine lv_iconst (v := nI 0) hx hb d_la_seedOf_1 (by decide) ?_
  refine lv_aload_n hx hb d_la_seedOf_2 rfl (lv_at hl 0 rfl) ?_
  refine lv_iload_n hx hb d_la_seedOf_3 rfl (lv_at hl 1 rfl) ?_
  refine g_hxi hG hG.2.2.1.1 (g_xrunV (As := [.int n]) (rest := [.int (nI 0), .ref o]) S lk_la_35 k_ps_seedOf (c_ps_seedOf l hl9 Z G s.heap.size x fx fpa hpt n) ⟨rfl, rfl⟩ ⟨(Nat.le_of_ble_eq_true rfl), (Nat.le_of_ble_eq_true rfl)⟩ (gPxV hG hE hX fx rfl) rfl hl.1 rfl (Nat.le_of_ble_eq_true rfl) d_la_seedOf_4 ⟨(Nat.le_of_ble_eq_true rfl), (Nat.le_of_ble_eq_true rfl)⟩) (fun E9 ce q9 H locs hE9 hG h9 hv9 hcl9 => ?_) (fun rc hca => ?_)
  · rcases hE9 with ⟨rfl, hth⟩
    refine vx_catch S.2.2.2.1 [] (⟨0, 9, 12, 19⟩ : ExceptionTableEntry) [] (htab.trans rfl) (fun z hz => nomatch hz) rfl (by decide) (S.2.2.2.2 _ tw_246) (va_Nw.use rfl (hE.2 _ nw_24)) h9 hv9 hcl9 ?_
    refine W.eq (g2 := F0 m 12 ls [.ref q9]) rfl ?_
    refine lv_astore_n (lv' := [(3, .ref q9), (0, .ref x), (1, .int n), (2, .ref o)]) hx hb d_la_seedOf_12 rfl hl (by decide) rfl (fun ls hl => ?_)
    refine lv_iconst (v := 1) hx hb d_la_seedOf_13 (by decide) ?_
    refine W.widen (k := 1) (n := 6) (Nat.le_of_ble_eq_true rfl) (Nat.le_of_ble_eq_true rfl) ?_
    exact (W.iret hx hb hr (fun t9 ht9 hW9 => ⟨⟨_, _, rfl, ⟨ov, ho, kX.rf, Or.inl ⟨rfl, hth, hcl⟩⟩, by rw [ht9]; exact hG.1, hG.2.1⟩, hG.2.2.1.F ht9⟩) hG.2.2.1.2.2 d_la_seedOf_14)
  · obtain ⟨j, h1, h2⟩ := hca
    have hk : kX noC G G := kX.rf
    have hp : ∀ G9 : gh, kX (fun e => ¬ oE e) G G9 → (∃ j, okP pt pd n j ∧ clQ Z G9 x C E M D fk tp pt pd ∧ rc = psd (pd j)) := fun G9 h9 => ⟨j, h1, clQ_ko hc h9, h2⟩
    have fo : G o = some (.inl (Z.2 0, 1, .inr (.inl ov))) := hk _ _ ho (Or.inr ⟨_, _, rfl⟩)
    refine lv_i2l hx hb d_la_seedOf_7 rfl ?_
    refine g_last S hE.1 hG fo 0 rfl (vp_in_nI (by omega) (by omega)) d_la_seedOf_8 (fun H locs hG => ?_)
    rw [nI_clamp (show 0 < 2 ^ 31 by omega)] at hG
    have hG : gS (gA G s.heap.size) s.heap Z.1 cls (gup G o (.inl (Z.2 0, 1, .inr (.inl (vp_updL ov 0 rc.toInt64))))) H locs := hG
    generalize eG8 : gup G o (.inl (Z.2 0, 1, .inr (.inl (vp_updL ov 0 rc.toInt64)))) = G8 at hG
    have f8 : G8 o = some (.inl (Z.2 0, 1, .inr (.inl (vp_updL ov 0 rc.toInt64)))) := by rw [← eG8]; exact gup_self _ _ _
    have hk8 : kX mE G G8 := by rw [← eG8]; exact (hk.mono (fun _ h => Or.inl h)).tr (kX_out fo).1
    have hp8 := hp G8 (by rw [← eG8]; exact (kX_out fo).2)
    refine lv_goto (tgt := 15) hx hb d_la_seedOf_9 (by decide) ?_
    refine lv_iconst (v := 0) hx hb d_la_seedOf_15 (by decide) ?_
    refine W.widen (k := 1) (n := 6) (Nat.le_of_ble_eq_true rfl) (Nat.le_of_ble_eq_true rfl) ?_
    exact (W.iret hx hb hr (fun t9 ht9 hW9 => ⟨⟨_, _, rfl, ⟨_, f8, hk8, Or.inr (⟨rfl, rc, upL0 _ _, hp8⟩)⟩, by rw [ht9]; exact hG.1, hG.2.1⟩, hG.2.2.1.F ht9⟩) hG.2.2.1.2.2 d_la_seedOf_16)

set_option maxHeartbeats 600000 in
set_option maxRecDepth 100000 in
theorem c_la_bit (l : Launch) (hl9 : l.stackTraces = false) (Z : gZ) (G : gh) (sz : Nat) (x o : Nat) {C E M D : Nat} {fk tp : Int32} {pt : Nat → Option Nat} {pd : Nat → Pat} {ov : Nat → Int64} (hcl : clQ Z G x C E M D fk tp pt pd) (ho : G o = some (.inl (Z.2 0, 1, .inr (.inl ov)))) (hbd : C ≤ 4 ∧ E ≤ 8 ∧ 1 ≤ D ∧ D ≤ 16 ∧ M ≤ 24) (n c0 e0 : Int32) : Met l y_la_bit (wd_la_bit :: Gall) ({ frames := 8, cells := 2, slots := 12, locals := 137 }) (va_Pc [.ref x, .int n, .int c0, .int e0, .ref o] (gPy Z G sz)) (va_Qi (fun (r : Int32) (G9 : gh) => ∃ ov9, G9 o = some (.inl (Z.2 0, 1, .inr (.inl ov9))) ∧ kX mE G G9 ∧ ((r = 1 ∧ ((∀ j, ¬ okP pt pd n j) ∨ ¬ ∃ k j, k < C ∧ j < E ∧ c0 = nI k ∧ e0 = nI j) ∧ clQ Z G9 x C E M D fk tp pt pd) ∨ (r = 0 ∧ ∃ r9 : Int32, ov9 0 = r9.toInt64 ∧ (∃ j k q, okP pt pd n j ∧ k < C ∧ q < E ∧ c0 = nI k ∧ e0 = nI q ∧ clQ Z G9 x C E M D fk tp pt pd ∧ r9 = if (bitsC (nI D) tp fk C E (pd j)) &&& plC (nI k) (nI q) = 0 then 0 else 1)))) (gW Z G sz) (gA G sz)) 2 12 (gA G sz) := by
  refine va_MetW (cc := b_la_bit) (maxL := 6) (ret := (some .int)) (hh := hh_la_bit) (by decide) rfl ?_
  intro p e s m args below meth c s₁ B hml hv
  obtain ⟨rfl, hN, hsz, ⟨hG, hE⟩, hX⟩ := hv
  subst hsz
  have hx := B.exec
  have hb := B.bytes
  have hr := B.returns
  have hlocks := B.notSynchronized
  have S : CallFix p m c b_la_bit 6 s _ Gall "PackSeedsLaw" := ⟨hx, hb, hml, findClass_of_methodNamed B.named, fun w hw => atoms_spec (ws := wd_la_bit :: Gall) B.pre w (List.mem_cons_of_mem _ hw)⟩
  have htab : c.exceptionTable.toList = tableOf hh_la_bit := vx_table (x := y_la_bit) B (atoms_spec (ws := wd_la_bit :: Gall) B.pre _ List.mem_cons_self)
  have hG : gS (gA G s.heap.size) s.heap Z.1 cls G s.heap [] := gS.start hG
  obtain ⟨hC, hE8, hD0, hD, hM⟩ := hbd
  obtain ⟨sh, ma, ro, pa, rw, hc⟩ := id hcl
  obtain ⟨fx, fs, fm, fro, fpa, hpt, hinj⟩ := id hc
  have hl := lv_entry ([.ref x, .int n, .int c0, .int e0, .ref o]) (n := 6) (Nat.le_of_ble_eq_true rfl)
  rw [lg_entry_eq]
  generalize (lg_sl ([.ref x, .int n, .int c0, .int e0, .ref o]) ++ List.replicate (6 - (lg_sl ([.ref x, .int n, .int c0, .int e0, .ref o])).length) Slot.unset).toArray = ls at hl ⊢
  have hl : lv_has ls 6 [(0, .ref x), (1, .int n), (2, .int c0), (3, .int e0), (4, .ref o)] := hl
  refine lv_aload hx hb d_la_bit_0 (lv_at hl 4 rfl) ?_
  refine lv_iconst (v := nI 0) hx hb d_la_bit_2 (by decide) ?_
  refine lv_aload_n hx hb d_la_bit_3 rfl (lv_at hl 0 rfl) ?_
  refine lv_iload_n hx hb d_la_bit_4 rfl (lv_at hl 1 rfl) ?_
  refine lv_iload_n hx hb d_la_bit_5 rfl (lv_at hl 2 rfl) ?_
  refine lv_iload_n hx hb d_la_bit_6 rfl (lv_at hl 3 rfl) ?_
  refine g_hxi hG hG.2.2.1.1 (g_xrunV (As := [.int n, .int c0, .int e0]) (rest := [.int (nI 0), .ref o]) S lk_la_38 k_ps_bit (c_ps_bit l hl9 Z G s.heap.size x fx fs hC hE8 fm fpa hpt n c0 e0) ⟨rfl, rfl⟩ ⟨(Nat.le_of_ble_eq_true rfl), (Nat.le_of_ble_eq_true rfl)⟩ (gPxV hG hE hX fx rfl) rfl hl.1 rfl (Nat.le_of_ble_eq_true rfl) d_la_bit_7 ⟨(Nat.le_of_ble_eq_true rfl), (Nat.le_of_ble_eq_true rfl)⟩) (fun E9 ce q9 H locs hE9 hG h9 hv9 hcl9 => ?_) (fun rc hca => ?_)
  · rcases hE9 with ⟨rfl, hth⟩
    refine vx_catch S.2.2.2.1 [] (⟨0, 12, 15, 19⟩ : ExceptionTableEntry) [] (htab.trans rfl) (fun z hz => nomatch hz) rfl (by decide) (S.2.2.2.2 _ tw_246) (va_Nw.use rfl (hE.2 _ nw_24)) h9 hv9 hcl9 ?_
    refine W.eq (g2 := F0 m 15 ls [.ref q9]) rfl ?_
    refine lv_astore (lv' := [(5, .ref q9), (0, .ref x), (1, .int n), (2, .int c0), (3, .int e0), (4, .ref o)]) hx hb d_la_bit_15 hl (by decide) rfl (fun ls hl => ?_)
    refine lv_iconst (v := 1) hx hb d_la_bit_17 (by decide) ?_
    refine W.widen (k := 2) (n := 12) (Nat.le_of_ble_eq_true rfl) (Nat.le_of_ble_eq_true rfl) ?_
    exact (W.iret hx hb hr (fun t9 ht9 hW9 => ⟨⟨_, _, rfl, ⟨ov, ho, kX.rf, Or.inl ⟨rfl, hth, hcl⟩⟩, by rw [ht9]; exact hG.1, hG.2.1⟩, hG.2.2.1.F ht9⟩) hG.2.2.1.2.2 d_la_bit_18)
  · obtain ⟨j, k, q, h1, h2, h3, h4, h5, h6⟩ := hca
    have hk : kX noC G G := kX.rf
    have hp : ∀ G9 : gh, kX (fun e => ¬ oE e) G G9 → (∃ j k q, okP pt pd n j ∧ k < C ∧ q < E ∧ c0 = nI k ∧ e0 = nI q ∧ clQ Z G9 x C E M D fk tp pt pd ∧ rc = if (bitsC (nI D) tp fk C E (pd j)) &&& plC (nI k) (nI q) = 0 then 0 else 1) := fun G9 h9 => ⟨j, k, q, h1, h2, h3, h4, h5, clQ_ko hc h9, h6⟩
    have fo : G o = some (.inl (Z.2 0, 1, .inr (.inl ov))) := hk _ _ ho (Or.inr ⟨_, _, rfl⟩)
    refine lv_i2l hx hb d_la_bit_10 rfl ?_
    refine g_last S hE.1 hG fo 0 rfl (vp_in_nI (by omega) (by omega)) d_la_bit_11 (fun H locs hG => ?_)
    rw [nI_clamp (show 0 < 2 ^ 31 by omega)] at hG
    have hG : gS (gA G s.heap.size) s.heap Z.1 cls (gup G o (.inl (Z.2 0, 1, .inr (.inl (vp_updL ov 0 rc.toInt64))))) H locs := hG
    generalize eG11 : gup G o (.inl (Z.2 0, 1, .inr (.inl (vp_updL ov 0 rc.toInt64)))) = G11 at hG
    have f11 : G11 o = some (.inl (Z.2 0, 1, .inr (.inl (vp_updL ov 0 rc.toInt64)))) := by rw [← eG11]; exact gup_self _ _ _
    have hk11 : kX mE G G11 := by rw [← eG11]; exact (hk.mono (fun _ h => Or.inl h)).tr (kX_out fo).1
    have hp11 := hp G11 (by rw [← eG11]; exact (kX_out fo).2)
    refine lv_goto (tgt := 19) hx hb d_la_bit_12 (by decide) ?_
    refine lv_iconst (v := 0) hx hb d_la_bit_19 (by decide) ?_
    refine W.widen (k := 2) (n := 12) (Nat.le_of_ble_eq_true rfl) (Nat.le_of_ble_eq_true rfl) ?_
    exact (W.iret hx hb hr (fun t9 ht9 hW9 => ⟨⟨_, _, rfl, ⟨_, f11, hk11, Or.inr (⟨rfl, rc, upL0 _ _, hp11⟩)⟩, by rw [ht9]; exact hG.1, hG.2.1⟩, hG.2.2.1.F ht9⟩) hG.2.2.1.2.2 d_la_bit_20)

set_option maxHeartbeats 600000 in
set_option maxRecDepth 100000 in
theorem c_la_finders (l : Launch) (hl9 : l.stackTraces = false) (Z : gZ) (G : gh) (sz : Nat) (x o : Nat) {C E M D : Nat} {fk tp : Int32} {pt : Nat → Option Nat} {pd : Nat → Pat} {ov : Nat → Int64} (hcl : clQ Z G x C E M D fk tp pt pd) (ho : G o = some (.inl (Z.2 0, 1, .inr (.inl ov)))) (hbd : C ≤ 4 ∧ E ≤ 8 ∧ 1 ≤ D ∧ D ≤ 16 ∧ M ≤ 24) (f0 : Int32) : Met l y_la_finders (wd_la_finders :: Gall) ({ frames := 8, cells := 1, slots := 6, locals := 135 }) (va_Pc [.ref x, .int f0, .ref o] (gPy Z G sz)) (va_Qi (fun (r : Int32) (G9 : gh) => ∃ ov9, G9 o = some (.inl (Z.2 0, 1, .inr (.inl ov9))) ∧ kX mE G G9 ∧ ((r = 1 ∧ (¬ ∃ k, k < 31 ∧ f0 = nI k) ∧ clQ Z G9 x C E M D fk tp pt pd) ∨ (r = 0 ∧ ∃ r9 : Int32, ov9 0 = r9.toInt64 ∧ (∃ f, f < 31 ∧ f0 = nI f ∧ clQ Z G9 x C E M D fk tp pt pd ∧ r9 = nI (cntF pt pd ((1 : Int32) <<< (nI f &&& 31)) 24))))) (gW Z G sz) (gA G sz)) 1 6 (gA G sz) := by
  refine va_MetW (cc := b_la_finders) (maxL := 4) (ret := (some .int)) (hh := hh_la_finders) (by decide) rfl ?_
  intro p e s m args below meth c s₁ B hml hv
  obtain ⟨rfl, hN, hsz, ⟨hG, hE⟩, hX⟩ := hv
  subst hsz
  have hx := B.exec
  have hb := B.bytes
  have hr := B.returns
  have hlocks := B.notSynchronized
  have S : CallFix p m c b_la_finders 4 s _ Gall "PackSeedsLaw" := ⟨hx, hb, hml, findClass_of_methodNamed B.named, fun w hw => atoms_spec (ws := wd_la_finders :: Gall) B.pre w (List.mem_cons_of_mem _ hw)⟩
  have htab : c.exceptionTable.toList = tableOf hh_la_finders := vx_table (x := y_la_finders) B (atoms_spec (ws := wd_la_finders :: Gall) B.pre _ List.mem_cons_self)
  have hG : gS (gA G s.heap.size) s.heap Z.1 cls G s.heap [] := gS.start hG
  obtain ⟨hC, hE8, hD0, hD, hM⟩ := hbd
  obtain ⟨sh, ma, ro, pa, rw, hc⟩ := id hcl
  obtain ⟨fx, fs, fm, fro, fpa, hpt, hinj⟩ := id hc
  have hl := lv_entry ([.ref x, .int f0, .ref o]) (n := 4) (Nat.le_of_ble_eq_true rfl)
  rw [lg_entry_eq]
  generalize (lg_sl ([.ref x, .int f0, .ref o]) ++ List.replicate (4 - (lg_sl ([.ref x, .int f0, .ref o])).length) Slot.unset).toArray = ls at hl ⊢
  have hl : lv_has ls 4 [(0, .ref x), (1, .int f0), (2, .ref o)] := hl
  refine lv_aload_n hx hb d_la_finders_0 rfl (lv_at hl 2 rfl) ?_
  refine lv_iconst (v := nI 0) hx hb d_la_finders_1 (by decide) ?_
  refine lv_aload_n hx hb d_la_finders_2 rfl (lv_at hl 0 rfl) ?_
  refine lv_iload_n hx hb d_la_finders_3 rfl (lv_at hl 1 rfl) ?_
  refine g_hxi hG hG.2.2.1.1 (g_xrunV (As := [.int f0]) (rest := [.int (nI 0), .ref o]) S lk_la_46 k_ps_finders (c_ps_finders l hl9 Z G s.heap.size x fx fpa hpt f0) ⟨rfl, rfl⟩ ⟨(Nat.le_of_ble_eq_true rfl), (Nat.le_of_ble_eq_true rfl)⟩ (gPxV hG hE hX fx rfl) rfl hl.1 rfl (Nat.le_of_ble_eq_true rfl) d_la_finders_4 ⟨(Nat.le_of_ble_eq_true rfl), (Nat.le_of_ble_eq_true rfl)⟩) (fun E9 ce q9 H locs hE9 hG h9 hv9 hcl9 => ?_) (fun rc hca => ?_)
  · rcases hE9 with ⟨rfl, hth⟩
    refine vx_catch S.2.2.2.1 [] (⟨0, 9, 12, 19⟩ : ExceptionTableEntry) [] (htab.trans rfl) (fun z hz => nomatch hz) rfl (by decide) (S.2.2.2.2 _ tw_246) (va_Nw.use rfl (hE.2 _ nw_24)) h9 hv9 hcl9 ?_
    refine W.eq (g2 := F0 m 12 ls [.ref q9]) rfl ?_
    refine lv_astore_n (lv' := [(3, .ref q9), (0, .ref x), (1, .int f0), (2, .ref o)]) hx hb d_la_finders_12 rfl hl (by decide) rfl (fun ls hl => ?_)
    refine lv_iconst (v := 1) hx hb d_la_finders_13 (by decide) ?_
    refine W.widen (k := 1) (n := 6) (Nat.le_of_ble_eq_true rfl) (Nat.le_of_ble_eq_true rfl) ?_
    exact (W.iret hx hb hr (fun t9 ht9 hW9 => ⟨⟨_, _, rfl, ⟨ov, ho, kX.rf, Or.inl ⟨rfl, hth, hcl⟩⟩, by rw [ht9]; exact hG.1, hG.2.1⟩, hG.2.2.1.F ht9⟩) hG.2.2.1.2.2 d_la_finders_14)
  · obtain ⟨f, h1, h2, h3⟩ := hca
    have hk : kX noC G G := kX.rf
    have hp : ∀ G9 : gh, kX (fun e => ¬ oE e) G G9 → (∃ f, f < 31 ∧ f0 = nI f ∧ clQ Z G9 x C E M D fk tp pt pd ∧ rc = nI (cntF pt pd ((1 : Int32) <<< (nI f &&& 31)) 24)) := fun G9 h9 => ⟨f, h1, h2, clQ_ko hc h9, h3⟩
    have fo : G o = some (.inl (Z.2 0, 1, .inr (.inl ov))) := hk _ _ ho (Or.inr ⟨_, _, rfl⟩)
    refine lv_i2l hx hb d_la_finders_7 rfl ?_
    refine g_last S hE.1 hG fo 0 rfl (vp_in_nI (by omega) (by omega)) d_la_finders_8 (fun H locs hG => ?_)
    rw [nI_clamp (show 0 < 2 ^ 31 by omega)] at hG
    have hG : gS (gA G s.heap.size) s.heap Z.1 cls (gup G o (.inl (Z.2 0, 1, .inr (.inl (vp_updL ov 0 rc.toInt64))))) H locs := hG
    generalize eG8 : gup G o (.inl (Z.2 0, 1, .inr (.inl (vp_updL ov 0 rc.toInt64)))) = G8 at hG
    have f8 : G8 o = some (.inl (Z.2 0, 1, .inr (.inl (vp_updL ov 0 rc.toInt64)))) := by rw [← eG8]; exact gup_self _ _ _
    have hk8 : kX mE G G8 := by rw [← eG8]; exact (hk.mono (fun _ h => Or.inl h)).tr (kX_out fo).1
    have hp8 := hp G8 (by rw [← eG8]; exact (kX_out fo).2)
    refine lv_goto (tgt := 15) hx hb d_la_finders_9 (by decide) ?_
    refine lv_iconst (v := 0) hx hb d_la_finders_15 (by decide) ?_
    refine W.widen (k := 1) (n := 6) (Nat.le_of_ble_eq_true rfl) (Nat.le_of_ble_eq_true rfl) ?_
    exact (W.iret hx hb hr (fun t9 ht9 hW9 => ⟨⟨_, _, rfl, ⟨_, f8, hk8, Or.inr (⟨rfl, rc, upL0 _ _, hp8⟩)⟩, by rw [ht9]; exact hG.1, hG.2.1⟩, hG.2.2.1.F ht9⟩) hG.2.2.1.2.2 d_la_finders_16)

set_option maxHeartbeats 600000 in
set_option maxRecDepth 100000 in
theorem c_la_shifts (l : Launch) (hl9 : l.stackTraces = false) (Z : gZ) (G : gh) (sz : Nat) (x o : Nat) {C E M D : Nat} {fk tp : Int32} {pt : Nat → Option Nat} {pd : Nat → Pat} {ov : Nat → Int64} (hcl : clQ Z G x C E M D fk tp pt pd) (ho : G o = some (.inl (Z.2 0, 1, .inr (.inl ov)))) (hbd : C ≤ 4 ∧ E ≤ 8 ∧ 1 ≤ D ∧ D ≤ 16 ∧ M ≤ 24) (n : Int32) : Met l y_la_shifts (wd_la_shifts :: Gall) ({ frames := 8, cells := 1, slots := 6, locals := 140 }) (va_Pc [.ref x, .int n, .ref o] (gPy Z G sz)) (va_Qi (fun (r : Int32) (G9 : gh) => ∃ ov9, G9 o = some (.inl (Z.2 0, 1, .inr (.inl ov9))) ∧ kX mE G G9 ∧ ((r = 1 ∧ (∀ j, ¬ okP pt pd n j) ∧ clQ Z G9 x C E M D fk tp pt pd) ∨ (r = 0 ∧ ∃ r9 : Int64, ov9 0 = r9 ∧ (∃ j, okP pt pd n j ∧ clQ Z G9 x C E M D fk tp pt pd ∧ r9 = shC (bitsC (nI D) tp fk C E (pd j)) E C)))) (gW Z G sz) (gA G sz)) 1 6 (gA G sz) := by
  refine va_MetW (cc := b_la_shifts) (maxL := 4) (ret := (some .int)) (hh := hh_la_shifts) (by decide) rfl ?_
  intro p e s m args below meth c s₁ B hml hv
  obtain ⟨rfl, hN, hsz, ⟨hG, hE⟩, hX⟩ := hv
  subst hsz
  have hx := B.exec
  have hb := B.bytes
  have hr := B.returns
  have hlocks := B.notSynchronized
  have S : CallFix p m c b_la_shifts 4 s _ Gall "PackSeedsLaw" := ⟨hx, hb, hml, findClass_of_methodNamed B.named, fun w hw => atoms_spec (ws := wd_la_shifts :: Gall) B.pre w (List.mem_cons_of_mem _ hw)⟩
  have htab : c.exceptionTable.toList = tableOf hh_la_shifts := vx_table (x := y_la_shifts) B (atoms_spec (ws := wd_la_shifts :: Gall) B.pre _ List.mem_cons_self)
  have hG : gS (gA G s.heap.size) s.heap Z.1 cls G s.heap [] := gS.start hG
  obtain ⟨hC, hE8, hD0, hD, hM⟩ := hbd
  obtain ⟨sh, ma, ro, pa, rw, hc⟩ := id hcl
  obtain ⟨fx, fs, fm, fro, fpa, hpt, hinj⟩ := id hc
  have hl := lv_entry ([.ref x, .int n, .ref o]) (n := 4) (Nat.le_of_ble_eq_true rfl)
  rw [lg_entry_eq]
  generalize (lg_sl ([.ref x, .int n, .ref o]) ++ List.replicate (4 - (lg_sl ([.ref x, .int n, .ref o])).length) Slot.unset).toArray = ls at hl ⊢
  have hl : lv_has ls 4 [(0, .ref x), (1, .int n), (2, .ref o)] := hl
  refine lv_aload_n hx hb d_la_shifts_0 rfl (lv_at hl 2 rfl) ?_
  refine lv_iconst (v := nI 0) hx hb d_la_shifts_1 (by decide) ?_
  refine lv_aload_n hx hb d_la_shifts_2 rfl (lv_at hl 0 rfl) ?_
  refine lv_iload_n hx hb d_la_shifts_3 rfl (lv_at hl 1 rfl) ?_
  refine g_hxl hG hG.2.2.1.1 (g_xrunV (As := [.int n]) (rest := [.int (nI 0), .ref o]) S lk_la_64 k_ps_shifts (c_ps_shifts l hl9 Z G s.heap.size x fx fs hC hE8 fm fpa hpt n) ⟨rfl, rfl⟩ ⟨(Nat.le_of_ble_eq_true rfl), (Nat.le_of_ble_eq_true rfl)⟩ (gPxV hG hE hX fx rfl) rfl hl.1 rfl (Nat.le_of_ble_eq_true rfl) d_la_shifts_4 ⟨(Nat.le_of_ble_eq_true rfl), (Nat.le_of_ble_eq_true rfl)⟩) (fun E9 ce q9 H locs hE9 hG h9 hv9 hcl9 => ?_) (fun rc hca => ?_)
  · rcases hE9 with ⟨rfl, hth⟩
    refine vx_catch S.2.2.2.1 [] (⟨0, 8, 11, 19⟩ : ExceptionTableEntry) [] (htab.trans rfl) (fun z hz => nomatch hz) rfl (by decide) (S.2.2.2.2 _ tw_246) (va_Nw.use rfl (hE.2 _ nw_24)) h9 hv9 hcl9 ?_
    refine W.eq (g2 := F0 m 11 ls [.ref q9]) rfl ?_
    refine lv_astore_n (lv' := [(3, .ref q9), (0, .ref x), (1, .int n), (2, .ref o)]) hx hb d_la_shifts_11 rfl hl (by decide) rfl (fun ls hl => ?_)
    refine lv_iconst (v := 1) hx hb d_la_shifts_12 (by decide) ?_
    refine W.widen (k := 1) (n := 6) (Nat.le_of_ble_eq_true rfl) (Nat.le_of_ble_eq_true rfl) ?_
    exact (W.iret hx hb hr (fun t9 ht9 hW9 => ⟨⟨_, _, rfl, ⟨ov, ho, kX.rf, Or.inl ⟨rfl, hth, hcl⟩⟩, by rw [ht9]; exact hG.1, hG.2.1⟩, hG.2.2.1.F ht9⟩) hG.2.2.1.2.2 d_la_shifts_13)
  · obtain ⟨j, h1, h2⟩ := hca
    have hk : kX noC G G := kX.rf
    have hp : ∀ G9 : gh, kX (fun e => ¬ oE e) G G9 → (∃ j, okP pt pd n j ∧ clQ Z G9 x C E M D fk tp pt pd ∧ rc = shC (bitsC (nI D) tp fk C E (pd j)) E C) := fun G9 h9 => ⟨j, h1, clQ_ko hc h9, h2⟩
    have fo : G o = some (.inl (Z.2 0, 1, .inr (.inl ov))) := hk _ _ ho (Or.inr ⟨_, _, rfl⟩)
    refine g_last S hE.1 hG fo 0 rfl (vp_in_nI (by omega) (by omega)) d_la_shifts_7 (fun H locs hG => ?_)
    rw [nI_clamp (show 0 < 2 ^ 31 by omega)] at hG
    have hG : gS (gA G s.heap.size) s.heap Z.1 cls (gup G o (.inl (Z.2 0, 1, .inr (.inl (vp_updL ov 0 rc))))) H locs := hG
    generalize eG7 : gup G o (.inl (Z.2 0, 1, .inr (.inl (vp_updL ov 0 rc)))) = G7 at hG
    have f7 : G7 o = some (.inl (Z.2 0, 1, .inr (.inl (vp_updL ov 0 rc)))) := by rw [← eG7]; exact gup_self _ _ _
    have hk7 : kX mE G G7 := by rw [← eG7]; exact (hk.mono (fun _ h => Or.inl h)).tr (kX_out fo).1
    have hp7 := hp G7 (by rw [← eG7]; exact (kX_out fo).2)
    refine lv_goto (tgt := 14) hx hb d_la_shifts_8 (by decide) ?_
    refine lv_iconst (v := 0) hx hb d_la_shifts_14 (by decide) ?_
    refine W.widen (k := 1) (n := 6) (Nat.le_of_ble_eq_true rfl) (Nat.le_of_ble_eq_true rfl) ?_
    exact (W.iret hx hb hr (fun t9 ht9 hW9 => ⟨⟨_, _, rfl, ⟨_, f7, hk7, Or.inr (⟨rfl, rc, upL0 _ _, hp7⟩)⟩, by rw [ht9]; exact hG.1, hG.2.1⟩, hG.2.2.1.F ht9⟩) hG.2.2.1.2.2 d_la_shifts_15)

set_option maxHeartbeats 600000 in
set_option maxRecDepth 100000 in
theorem c_la_signature (l : Launch) (hl9 : l.stackTraces = false) (Z : gZ) (G : gh) (sz : Nat) (x o : Nat) {C E M D : Nat} {fk tp : Int32} {pt : Nat → Option Nat} {pd : Nat → Pat} {ov : Nat → Int64} (hcl : clQ Z G x C E M D fk tp pt pd) (ho : G o = some (.inl (Z.2 0, 1, .inr (.inl ov)))) (hbd : C ≤ 4 ∧ E ≤ 8 ∧ 1 ≤ D ∧ D ≤ 16 ∧ M ≤ 24) (a0 b0 : Int32) : Met l y_la_signature (wd_la_signature :: Gall) ({ frames := 7, cells := 1, slots := 6, locals := 117 }) (va_Pc [.ref x, .int a0, .int b0, .ref o] (gPy Z G sz)) (va_Qi (fun (r : Int32) (G9 : gh) => ∃ ov9, G9 o = some (.inl (Z.2 0, 1, .inr (.inl ov9))) ∧ kX mE G G9 ∧ ((r = 1 ∧ (a0 < 0 ∨ b0 < a0) ∧ clQ Z G9 x C E M D fk tp pt pd) ∨ (r = 0 ∧ ∃ r9 : Int64, ov9 0 = r9 ∧ (∃ f t, a0 = nI f ∧ b0 = nI t ∧ f ≤ t ∧ t < 2 ^ 31 ∧ clQ Z G9 x C E M D fk tp pt pd ∧ r9 = (sgC (nI D) tp fk C E pt pd f (min t 23 + 1 - f)).toInt64)))) (gW Z G sz) (gA G sz)) 1 6 (gA G sz) := by
  refine va_MetW (cc := b_la_signature) (maxL := 5) (ret := (some .int)) (hh := hh_la_signature) (by decide) rfl ?_
  intro p e s m args below meth c s₁ B hml hv
  obtain ⟨rfl, hN, hsz, ⟨hG, hE⟩, hX⟩ := hv
  subst hsz
  have hx := B.exec
  have hb := B.bytes
  have hr := B.returns
  have hlocks := B.notSynchronized
  have S : CallFix p m c b_la_signature 5 s _ Gall "PackSeedsLaw" := ⟨hx, hb, hml, findClass_of_methodNamed B.named, fun w hw => atoms_spec (ws := wd_la_signature :: Gall) B.pre w (List.mem_cons_of_mem _ hw)⟩
  have htab : c.exceptionTable.toList = tableOf hh_la_signature := vx_table (x := y_la_signature) B (atoms_spec (ws := wd_la_signature :: Gall) B.pre _ List.mem_cons_self)
  have hG : gS (gA G s.heap.size) s.heap Z.1 cls G s.heap [] := gS.start hG
  obtain ⟨hC, hE8, hD0, hD, hM⟩ := hbd
  obtain ⟨sh, ma, ro, pa, rw, hc⟩ := id hcl
  obtain ⟨fx, fs, fm, fro, fpa, hpt, hinj⟩ := id hc
  have hl := lv_entry ([.ref x, .int a0, .int b0, .ref o]) (n := 5) (Nat.le_of_ble_eq_true rfl)
  rw [lg_entry_eq]
  generalize (lg_sl ([.ref x, .int a0, .int b0, .ref o]) ++ List.replicate (5 - (lg_sl ([.ref x, .int a0, .int b0, .ref o])).length) Slot.unset).toArray = ls at hl ⊢
  have hl : lv_has ls 5 [(0, .ref x), (1, .int a0), (2, .int b0), (3, .ref o)] := hl
  refine lv_aload_n hx hb d_la_signature_0 rfl (lv_at hl 3 rfl) ?_
  refine lv_iconst (v := nI 0) hx hb d_la_signature_1 (by decide) ?_
  refine lv_aload_n hx hb d_la_signature_2 rfl (lv_at hl 0 rfl) ?_
  refine lv_iload_n hx hb d_la_signature_3 rfl (lv_at hl 1 rfl) ?_
  refine lv_iload_n hx hb d_la_signature_4 rfl (lv_at hl 2 rfl) ?_
  refine g_hxl hG hG.2.2.1.1 (g_xrunV (As := [.int a0, .int b0]) (rest := [.int (nI 0), .ref o]) S lk_la_53 k_ps_signature (c_ps_signature l hl9 Z G s.heap.size x fx fs hC hE8 fm fpa hpt a0 b0) ⟨rfl, rfl⟩ ⟨(Nat.le_of_ble_eq_true rfl), (Nat.le_of_ble_eq_true rfl)⟩ (gPxV hG hE hX fx rfl) rfl hl.1 rfl (Nat.le_of_ble_eq_true rfl) d_la_signature_5 ⟨(Nat.le_of_ble_eq_true rfl), (Nat.le_of_ble_eq_true rfl)⟩) (fun E9 ce q9 H locs hE9 hG h9 hv9 hcl9 => ?_) (fun rc hca => ?_)
  · rcases hE9 with ⟨rfl, hth⟩
    refine vx_catch S.2.2.2.1 [] (⟨0, 9, 12, 21⟩ : ExceptionTableEntry) [] (htab.trans rfl) (fun z hz => nomatch hz) rfl (by decide) (S.2.2.2.2 _ tw_247) (va_Nw.use rfl (hE.2 _ nw_25)) h9 hv9 hcl9 ?_
    refine W.eq (g2 := F0 m 12 ls [.ref q9]) rfl ?_
    refine lv_astore (lv' := [(4, .ref q9), (0, .ref x), (1, .int a0), (2, .int b0), (3, .ref o)]) hx hb d_la_signature_12 hl (by decide) rfl (fun ls hl => ?_)
    refine lv_iconst (v := 1) hx hb d_la_signature_14 (by decide) ?_
    refine W.widen (k := 1) (n := 6) (Nat.le_of_ble_eq_true rfl) (Nat.le_of_ble_eq_true rfl) ?_
    exact (W.iret hx hb hr (fun t9 ht9 hW9 => ⟨⟨_, _, rfl, ⟨ov, ho, kX.rf, Or.inl ⟨rfl, hth, hcl⟩⟩, by rw [ht9]; exact hG.1, hG.2.1⟩, hG.2.2.1.F ht9⟩) hG.2.2.1.2.2 d_la_signature_15)
  · obtain ⟨f, t, h1, h2, h3, h4, h5⟩ := hca
    have hk : kX noC G G := kX.rf
    have hp : ∀ G9 : gh, kX (fun e => ¬ oE e) G G9 → (∃ f t, a0 = nI f ∧ b0 = nI t ∧ f ≤ t ∧ t < 2 ^ 31 ∧ clQ Z G9 x C E M D fk tp pt pd ∧ rc = (sgC (nI D) tp fk C E pt pd f (min t 23 + 1 - f)).toInt64) := fun G9 h9 => ⟨f, t, h1, h2, h3, h4, clQ_ko hc h9, h5⟩
    have fo : G o = some (.inl (Z.2 0, 1, .inr (.inl ov))) := hk _ _ ho (Or.inr ⟨_, _, rfl⟩)
    refine g_last S hE.1 hG fo 0 rfl (vp_in_nI (by omega) (by omega)) d_la_signature_8 (fun H locs hG => ?_)
    rw [nI_clamp (show 0 < 2 ^ 31 by omega)] at hG
    have hG : gS (gA G s.heap.size) s.heap Z.1 cls (gup G o (.inl (Z.2 0, 1, .inr (.inl (vp_updL ov 0 rc))))) H locs := hG
    generalize eG8 : gup G o (.inl (Z.2 0, 1, .inr (.inl (vp_updL ov 0 rc)))) = G8 at hG
    have f8 : G8 o = some (.inl (Z.2 0, 1, .inr (.inl (vp_updL ov 0 rc)))) := by rw [← eG8]; exact gup_self _ _ _
    have hk8 : kX mE G G8 := by rw [← eG8]; exact (hk.mono (fun _ h => Or.inl h)).tr (kX_out fo).1
    have hp8 := hp G8 (by rw [← eG8]; exact (kX_out fo).2)
    refine lv_goto (tgt := 16) hx hb d_la_signature_9 (by decide) ?_
    refine lv_iconst (v := 0) hx hb d_la_signature_16 (by decide) ?_
    refine W.widen (k := 1) (n := 6) (Nat.le_of_ble_eq_true rfl) (Nat.le_of_ble_eq_true rfl) ?_
    exact (W.iret hx hb hr (fun t9 ht9 hW9 => ⟨⟨_, _, rfl, ⟨_, f8, hk8, Or.inr (⟨rfl, rc, upL0 _ _, hp8⟩)⟩, by rw [ht9]; exact hG.1, hG.2.1⟩, hG.2.2.1.F ht9⟩) hG.2.2.1.2.2 d_la_signature_17)

set_option maxHeartbeats 600000 in
set_option maxRecDepth 100000 in
theorem c_la_alias (l : Launch) (hl9 : l.stackTraces = false) (Z : gZ) (G : gh) (sz : Nat) (x o : Nat) {C E M D : Nat} {fk tp : Int32} {pt : Nat → Option Nat} {pd : Nat → Pat} {ov : Nat → Int64} (hcl : clQ Z G x C E M D fk tp pt pd) (ho : G o = some (.inl (Z.2 0, 1, .inr (.inl ov)))) (hbd : C ≤ 4 ∧ E ≤ 8 ∧ 1 ≤ D ∧ D ≤ 16 ∧ M ≤ 24) (n0 q0 : Int32) : Met l y_la_alias (wd_la_alias :: Gall) ({ frames := 7, cells := 1, slots := 6, locals := 117 }) (va_Pc [.ref x, .int n0, .int q0, .ref o] (gPy Z G sz)) (va_Qi (fun (r : Int32) (G9 : gh) => ∃ ov9, G9 o = some (.inl (Z.2 0, 1, .inr (.inl ov9))) ∧ kX mE G G9 ∧ ((r = 1 ∧ (¬ ((∃ N, 1 ≤ N ∧ N ≤ 60 ∧ n0 = nI N) ∧ (q0 = 0 ∨ q0 = 1))) ∧ clQ Z G9 x C E M D fk tp pt pd) ∨ (r = 0 ∧ ∃ r9 : Int64, ov9 0 = r9 ∧ (∃ N, 1 ≤ N ∧ N ≤ 60 ∧ n0 = nI N ∧ (q0 = 0 ∨ q0 = 1) ∧ clQ Z G9 x C E M D fk tp pt pd ∧ r9 = (if q0 = 0 then lN (2 ^ (N - D) - 1) else lN (2 ^ N - 1)) / gcdC (lN (2 ^ N - 1)) (lN (2 ^ (N - D) - 1)))))) (gW Z G sz) (gA G sz)) 1 6 (gA G sz) := by
  refine va_MetW (cc := b_la_alias) (maxL := 5) (ret := (some .int)) (hh := hh_la_alias) (by decide) rfl ?_
  intro p e s m args below meth c s₁ B hml hv
  obtain ⟨rfl, hN, hsz, ⟨hG, hE⟩, hX⟩ := hv
  subst hsz
  have hx := B.exec
  have hb := B.bytes
  have hr := B.returns
  have hlocks := B.notSynchronized
  have S : CallFix p m c b_la_alias 5 s _ Gall "PackSeedsLaw" := ⟨hx, hb, hml, findClass_of_methodNamed B.named, fun w hw => atoms_spec (ws := wd_la_alias :: Gall) B.pre w (List.mem_cons_of_mem _ hw)⟩
  have htab : c.exceptionTable.toList = tableOf hh_la_alias := vx_table (x := y_la_alias) B (atoms_spec (ws := wd_la_alias :: Gall) B.pre _ List.mem_cons_self)
  have hG : gS (gA G s.heap.size) s.heap Z.1 cls G s.heap [] := gS.start hG
  obtain ⟨hC, hE8, hD0, hD, hM⟩ := hbd
  obtain ⟨sh, ma, ro, pa, rw, hc⟩ := id hcl
  obtain ⟨fx, fs, fm, fro, fpa, hpt, hinj⟩ := id hc
  have hl := lv_entry ([.ref x, .int n0, .int q0, .ref o]) (n := 5) (Nat.le_of_ble_eq_true rfl)
  rw [lg_entry_eq]
  generalize (lg_sl ([.ref x, .int n0, .int q0, .ref o]) ++ List.replicate (5 - (lg_sl ([.ref x, .int n0, .int q0, .ref o])).length) Slot.unset).toArray = ls at hl ⊢
  have hl : lv_has ls 5 [(0, .ref x), (1, .int n0), (2, .int q0), (3, .ref o)] := hl
  refine lv_aload_n hx hb d_la_alias_0 rfl (lv_at hl 3 rfl) ?_
  refine lv_iconst (v := nI 0) hx hb d_la_alias_1 (by decide) ?_
  refine lv_aload_n hx hb d_la_alias_2 rfl (lv_at hl 0 rfl) ?_
  refine lv_iload_n hx hb d_la_alias_3 rfl (lv_at hl 1 rfl) ?_
  refine lv_iload_n hx hb d_la_alias_4 rfl (lv_at hl 2 rfl) ?_
  refine g_hxl hG hG.2.2.1.1 (g_xrunV (As := [.int n0, .int q0]) (rest := [.int (nI 0), .ref o]) S lk_la_57 k_ps_alias (c_ps_alias l hl9 Z G s.heap.size x fx fm hD0 hD n0 q0) ⟨rfl, rfl⟩ ⟨(Nat.le_of_ble_eq_true rfl), (Nat.le_of_ble_eq_true rfl)⟩ (gPxV hG hE hX fx rfl) rfl hl.1 rfl (Nat.le_of_ble_eq_true rfl) d_la_alias_5 ⟨(Nat.le_of_ble_eq_true rfl), (Nat.le_of_ble_eq_true rfl)⟩) (fun E9 ce q9 H locs hE9 hG h9 hv9 hcl9 => ?_) (fun rc hca => ?_)
  · rcases hE9 with ⟨rfl, hth⟩
    refine vx_catch S.2.2.2.1 [] (⟨0, 9, 12, 21⟩ : ExceptionTableEntry) [] (htab.trans rfl) (fun z hz => nomatch hz) rfl (by decide) (S.2.2.2.2 _ tw_247) (va_Nw.use rfl (hE.2 _ nw_25)) h9 hv9 hcl9 ?_
    refine W.eq (g2 := F0 m 12 ls [.ref q9]) rfl ?_
    refine lv_astore (lv' := [(4, .ref q9), (0, .ref x), (1, .int n0), (2, .int q0), (3, .ref o)]) hx hb d_la_alias_12 hl (by decide) rfl (fun ls hl => ?_)
    refine lv_iconst (v := 1) hx hb d_la_alias_14 (by decide) ?_
    refine W.widen (k := 1) (n := 6) (Nat.le_of_ble_eq_true rfl) (Nat.le_of_ble_eq_true rfl) ?_
    exact (W.iret hx hb hr (fun t9 ht9 hW9 => ⟨⟨_, _, rfl, ⟨ov, ho, kX.rf, Or.inl ⟨rfl, hth, hcl⟩⟩, by rw [ht9]; exact hG.1, hG.2.1⟩, hG.2.2.1.F ht9⟩) hG.2.2.1.2.2 d_la_alias_15)
  · obtain ⟨N, h1, h2, h3, h4, h5⟩ := hca
    have hk : kX noC G G := kX.rf
    have hp : ∀ G9 : gh, kX (fun e => ¬ oE e) G G9 → (∃ N, 1 ≤ N ∧ N ≤ 60 ∧ n0 = nI N ∧ (q0 = 0 ∨ q0 = 1) ∧ clQ Z G9 x C E M D fk tp pt pd ∧ rc = (if q0 = 0 then lN (2 ^ (N - D) - 1) else lN (2 ^ N - 1)) / gcdC (lN (2 ^ N - 1)) (lN (2 ^ (N - D) - 1))) := fun G9 h9 => ⟨N, h1, h2, h3, h4, clQ_ko hc h9, h5⟩
    have fo : G o = some (.inl (Z.2 0, 1, .inr (.inl ov))) := hk _ _ ho (Or.inr ⟨_, _, rfl⟩)
    refine g_last S hE.1 hG fo 0 rfl (vp_in_nI (by omega) (by omega)) d_la_alias_8 (fun H locs hG => ?_)
    rw [nI_clamp (show 0 < 2 ^ 31 by omega)] at hG
    have hG : gS (gA G s.heap.size) s.heap Z.1 cls (gup G o (.inl (Z.2 0, 1, .inr (.inl (vp_updL ov 0 rc))))) H locs := hG
    generalize eG8 : gup G o (.inl (Z.2 0, 1, .inr (.inl (vp_updL ov 0 rc)))) = G8 at hG
    have f8 : G8 o = some (.inl (Z.2 0, 1, .inr (.inl (vp_updL ov 0 rc)))) := by rw [← eG8]; exact gup_self _ _ _
    have hk8 : kX mE G G8 := by rw [← eG8]; exact (hk.mono (fun _ h => Or.inl h)).tr (kX_out fo).1
    have hp8 := hp G8 (by rw [← eG8]; exact (kX_out fo).2)
    refine lv_goto (tgt := 16) hx hb d_la_alias_9 (by decide) ?_
    refine lv_iconst (v := 0) hx hb d_la_alias_16 (by decide) ?_
    refine W.widen (k := 1) (n := 6) (Nat.le_of_ble_eq_true rfl) (Nat.le_of_ble_eq_true rfl) ?_
    exact (W.iret hx hb hr (fun t9 ht9 hW9 => ⟨⟨_, _, rfl, ⟨_, f8, hk8, Or.inr (⟨rfl, rc, upL0 _ _, hp8⟩)⟩, by rw [ht9]; exact hG.1, hG.2.1⟩, hG.2.2.1.F ht9⟩) hG.2.2.1.2.2 d_la_alias_17)

set_option maxHeartbeats 600000 in
set_option maxRecDepth 100000 in
theorem c_la_count (l : Launch) (hl9 : l.stackTraces = false) (Z : gZ) (G : gh) (sz : Nat) (x o : Nat) {C E M D : Nat} {fk tp : Int32} {pt : Nat → Option Nat} {pd : Nat → Pat} {ov : Nat → Int64} (hcl : clQ Z G x C E M D fk tp pt pd) (ho : G o = some (.inl (Z.2 0, 1, .inr (.inl ov)))) (hbd : C ≤ 4 ∧ E ≤ 8 ∧ 1 ≤ D ∧ D ≤ 16 ∧ M ≤ 24) (w0 : Int32) : Met l y_la_count (wd_la_count :: Gall) ({ frames := 7, cells := 1, slots := 6, locals := 111 }) (va_Pc [.ref x, .int w0, .ref o] (gPy Z G sz)) (va_Qi (fun (r : Int32) (G9 : gh) => ∃ ov9, G9 o = some (.inl (Z.2 0, 1, .inr (.inl ov9))) ∧ kX mE G G9 ∧ ((r = 1 ∧ (¬ ∃ j, j < 5 ∧ w0 = nI j) ∧ clQ Z G9 x C E M D fk tp pt pd) ∨ (r = 0 ∧ ∃ r9 : Int32, ov9 0 = r9.toInt64 ∧ (∃ j, j < 5 ∧ w0 = nI j ∧ clQ Z G9 x C E M D fk tp pt pd ∧ r9 = cnC (nI D) pt pd j)))) (gW Z G sz) (gA G sz)) 1 6 (gA G sz) := by
  refine va_MetW (cc := b_la_count) (maxL := 4) (ret := (some .int)) (hh := hh_la_count) (by decide) rfl ?_
  intro p e s m args below meth c s₁ B hml hv
  obtain ⟨rfl, hN, hsz, ⟨hG, hE⟩, hX⟩ := hv
  subst hsz
  have hx := B.exec
  have hb := B.bytes
  have hr := B.returns
  have hlocks := B.notSynchronized
  have S : CallFix p m c b_la_count 4 s _ Gall "PackSeedsLaw" := ⟨hx, hb, hml, findClass_of_methodNamed B.named, fun w hw => atoms_spec (ws := wd_la_count :: Gall) B.pre w (List.mem_cons_of_mem _ hw)⟩
  have htab : c.exceptionTable.toList = tableOf hh_la_count := vx_table (x := y_la_count) B (atoms_spec (ws := wd_la_count :: Gall) B.pre _ List.mem_cons_self)
  have hG : gS (gA G s.heap.size) s.heap Z.1 cls G s.heap [] := gS.start hG
  obtain ⟨hC, hE8, hD0, hD, hM⟩ := hbd
  obtain ⟨sh, ma, ro, pa, rw, hc⟩ := id hcl
  obtain ⟨fx, fs, fm, fro, fpa, hpt, hinj⟩ := id hc
  have hl := lv_entry ([.ref x, .int w0, .ref o]) (n := 4) (Nat.le_of_ble_eq_true rfl)
  rw [lg_entry_eq]
  generalize (lg_sl ([.ref x, .int w0, .ref o]) ++ List.replicate (4 - (lg_sl ([.ref x, .int w0, .ref o])).length) Slot.unset).toArray = ls at hl ⊢
  have hl : lv_has ls 4 [(0, .ref x), (1, .int w0), (2, .ref o)] := hl
  refine lv_aload_n hx hb d_la_count_0 rfl (lv_at hl 2 rfl) ?_
  refine lv_iconst (v := nI 0) hx hb d_la_count_1 (by decide) ?_
  refine lv_aload_n hx hb d_la_count_2 rfl (lv_at hl 0 rfl) ?_
  refine lv_iload_n hx hb d_la_count_3 rfl (lv_at hl 1 rfl) ?_
  refine g_hxi hG hG.2.2.1.1 (g_xrunV (As := [.int w0]) (rest := [.int (nI 0), .ref o]) S lk_la_68 k_ps_count (c_ps_count l hl9 Z G s.heap.size x fx fs hC hE8 fm fpa hpt w0) ⟨rfl, rfl⟩ ⟨(Nat.le_of_ble_eq_true rfl), (Nat.le_of_ble_eq_true rfl)⟩ (gPxV hG hE hX fx rfl) rfl hl.1 rfl (Nat.le_of_ble_eq_true rfl) d_la_count_4 ⟨(Nat.le_of_ble_eq_true rfl), (Nat.le_of_ble_eq_true rfl)⟩) (fun E9 ce q9 H locs hE9 hG h9 hv9 hcl9 => ?_) (fun rc hca => ?_)
  · rcases hE9 with ⟨rfl, hth⟩
    refine vx_catch S.2.2.2.1 [] (⟨0, 9, 12, 19⟩ : ExceptionTableEntry) [] (htab.trans rfl) (fun z hz => nomatch hz) rfl (by decide) (S.2.2.2.2 _ tw_246) (va_Nw.use rfl (hE.2 _ nw_24)) h9 hv9 hcl9 ?_
    refine W.eq (g2 := F0 m 12 ls [.ref q9]) rfl ?_
    refine lv_astore_n (lv' := [(3, .ref q9), (0, .ref x), (1, .int w0), (2, .ref o)]) hx hb d_la_count_12 rfl hl (by decide) rfl (fun ls hl => ?_)
    refine lv_iconst (v := 1) hx hb d_la_count_13 (by decide) ?_
    refine W.widen (k := 1) (n := 6) (Nat.le_of_ble_eq_true rfl) (Nat.le_of_ble_eq_true rfl) ?_
    exact (W.iret hx hb hr (fun t9 ht9 hW9 => ⟨⟨_, _, rfl, ⟨ov, ho, kX.rf, Or.inl ⟨rfl, hth, hcl⟩⟩, by rw [ht9]; exact hG.1, hG.2.1⟩, hG.2.2.1.F ht9⟩) hG.2.2.1.2.2 d_la_count_14)
  · obtain ⟨j, h1, h2, h3⟩ := hca
    have hk : kX noC G G := kX.rf
    have hp : ∀ G9 : gh, kX (fun e => ¬ oE e) G G9 → (∃ j, j < 5 ∧ w0 = nI j ∧ clQ Z G9 x C E M D fk tp pt pd ∧ rc = cnC (nI D) pt pd j) := fun G9 h9 => ⟨j, h1, h2, clQ_ko hc h9, h3⟩
    have fo : G o = some (.inl (Z.2 0, 1, .inr (.inl ov))) := hk _ _ ho (Or.inr ⟨_, _, rfl⟩)
    refine lv_i2l hx hb d_la_count_7 rfl ?_
    refine g_last S hE.1 hG fo 0 rfl (vp_in_nI (by omega) (by omega)) d_la_count_8 (fun H locs hG => ?_)
    rw [nI_clamp (show 0 < 2 ^ 31 by omega)] at hG
    have hG : gS (gA G s.heap.size) s.heap Z.1 cls (gup G o (.inl (Z.2 0, 1, .inr (.inl (vp_updL ov 0 rc.toInt64))))) H locs := hG
    generalize eG8 : gup G o (.inl (Z.2 0, 1, .inr (.inl (vp_updL ov 0 rc.toInt64)))) = G8 at hG
    have f8 : G8 o = some (.inl (Z.2 0, 1, .inr (.inl (vp_updL ov 0 rc.toInt64)))) := by rw [← eG8]; exact gup_self _ _ _
    have hk8 : kX mE G G8 := by rw [← eG8]; exact (hk.mono (fun _ h => Or.inl h)).tr (kX_out fo).1
    have hp8 := hp G8 (by rw [← eG8]; exact (kX_out fo).2)
    refine lv_goto (tgt := 15) hx hb d_la_count_9 (by decide) ?_
    refine lv_iconst (v := 0) hx hb d_la_count_15 (by decide) ?_
    refine W.widen (k := 1) (n := 6) (Nat.le_of_ble_eq_true rfl) (Nat.le_of_ble_eq_true rfl) ?_
    exact (W.iret hx hb hr (fun t9 ht9 hW9 => ⟨⟨_, _, rfl, ⟨_, f8, hk8, Or.inr (⟨rfl, rc, upL0 _ _, hp8⟩)⟩, by rw [ht9]; exact hG.1, hG.2.1⟩, hG.2.2.1.F ht9⟩) hG.2.2.1.2.2 d_la_count_16)

set_option maxHeartbeats 600000 in
set_option maxRecDepth 100000 in
theorem c_la_pattern (l : Launch) (hl9 : l.stackTraces = false) (Z : gZ) (G : gh) (sz : Nat) (x o : Nat) {C E M D : Nat} {fk tp : Int32} {pt : Nat → Option Nat} {pd : Nat → Pat} {ov : Nat → Int64} (hcl : clQ Z G x C E M D fk tp pt pd) (ho : G o = some (.inl (Z.2 0, 1, .inr (.inl ov)))) (hbd : C ≤ 4 ∧ E ≤ 8 ∧ 1 ≤ D ∧ D ≤ 16 ∧ M ≤ 24) : Met l y_la_pattern (wd_la_pattern :: Gall) ({ frames := 7, cells := 1, slots := 6, locals := 111 }) (va_Pc [.ref x, .ref o] (gPy Z G sz)) (va_Qi (fun (r : Int32) (G9 : gh) => ∃ ov9, G9 o = some (.inl (Z.2 0, 1, .inr (.inl ov9))) ∧ kX mE G G9 ∧ ((r = 1 ∧ (¬ M < 24) ∧ clQ Z G9 x C E M D fk tp pt pd) ∨ (r = 0 ∧ ∃ r9 : Int32, ov9 0 = r9.toInt64 ∧ (M < 24 ∧ r9 = nI M ∧ ∃ q, clQ Z G9 x C E (M + 1) D fk tp (va_up pt M (some q)) (va_up pd M pat0))))) (gW Z G sz) (gA G sz)) 1 6 (gA G sz) := by
  refine va_MetW (cc := b_la_pattern) (maxL := 3) (ret := (some .int)) (hh := hh_la_pattern) (by decide) rfl ?_
  intro p e s m args below meth c s₁ B hml hv
  obtain ⟨rfl, hN, hsz, ⟨hG, hE⟩, hX⟩ := hv
  subst hsz
  have hx := B.exec
  have hb := B.bytes
  have hr := B.returns
  have hlocks := B.notSynchronized
  have S : CallFix p m c b_la_pattern 3 s _ Gall "PackSeedsLaw" := ⟨hx, hb, hml, findClass_of_methodNamed B.named, fun w hw => atoms_spec (ws := wd_la_pattern :: Gall) B.pre w (List.mem_cons_of_mem _ hw)⟩
  have htab : c.exceptionTable.toList = tableOf hh_la_pattern := vx_table (x := y_la_pattern) B (atoms_spec (ws := wd_la_pattern :: Gall) B.pre _ List.mem_cons_self)
  have hG : gS (gA G s.heap.size) s.heap Z.1 cls G s.heap [] := gS.start hG
  obtain ⟨hC, hE8, hD0, hD, hM⟩ := hbd
  obtain ⟨sh, ma, ro, pa, rw, hc⟩ := id hcl
  obtain ⟨fx, fs, fm, fro, fpa, hpt, hinj⟩ := id hc
  have hl := lv_entry ([.ref x, .ref o]) (n := 3) (Nat.le_of_ble_eq_true rfl)
  rw [lg_entry_eq]
  generalize (lg_sl ([.ref x, .ref o]) ++ List.replicate (3 - (lg_sl ([.ref x, .ref o])).length) Slot.unset).toArray = ls at hl ⊢
  have hl : lv_has ls 3 [(0, .ref x), (1, .ref o)] := hl
  refine lv_aload_n hx hb d_la_pattern_0 rfl (lv_at hl 1 rfl) ?_
  refine lv_iconst (v := nI 0) hx hb d_la_pattern_1 (by decide) ?_
  refine lv_aload_n hx hb d_la_pattern_2 rfl (lv_at hl 0 rfl) ?_
  refine g_hwi hG (g_xrunV (As := []) (rest := [.int (nI 0), .ref o]) S lk_la_7 k_ps_pattern (c_ps_pattern l hl9 Z G s.heap.size x fx hM fpa) ⟨rfl, rfl⟩ ⟨(Nat.le_of_ble_eq_true rfl), (Nat.le_of_ble_eq_true rfl)⟩ (gPxV hG hE hX fx rfl) rfl hl.1 rfl (Nat.le_of_ble_eq_true rfl) d_la_pattern_3 ⟨(Nat.le_of_ble_eq_true rfl), (Nat.le_of_ble_eq_true rfl)⟩) (fun E9 ce q9 H locs hE9 hG h9 hv9 hcl9 => ?_) (fun rc Gc H locs hca hG => ?_)
  · rcases hE9 with ⟨rfl, hth⟩
    refine vx_catch S.2.2.2.1 [] (⟨0, 8, 11, 13⟩ : ExceptionTableEntry) [] (htab.trans rfl) (fun z hz => nomatch hz) rfl (by decide) (S.2.2.2.2 _ tw_141) (va_Nw.use rfl (hE.2 _ nw_10)) h9 hv9 hcl9 ?_
    refine W.eq (g2 := F0 m 11 ls [.ref q9]) rfl ?_
    refine lv_astore_n (lv' := [(2, .ref q9), (0, .ref x), (1, .ref o)]) hx hb d_la_pattern_11 rfl hl (by decide) rfl (fun ls hl => ?_)
    refine lv_iconst (v := 1) hx hb d_la_pattern_12 (by decide) ?_
    refine W.widen (k := 1) (n := 6) (Nat.le_of_ble_eq_true rfl) (Nat.le_of_ble_eq_true rfl) ?_
    exact (W.iret hx hb hr (fun t9 ht9 hW9 => ⟨⟨_, _, rfl, ⟨ov, ho, kX.rf, Or.inl ⟨rfl, hth, hcl⟩⟩, by rw [ht9]; exact hG.1, hG.2.1⟩, hG.2.2.1.F ht9⟩) hG.2.2.1.2.2 d_la_pattern_13)
  · obtain ⟨hk, hp⟩ : kX noC G Gc ∧ ∀ G9 : gh, kX (fun e => ¬ oE e) Gc G9 → (M < 24 ∧ rc = nI M ∧ ∃ q, clQ Z G9 x C E (M + 1) D fk tp (va_up pt M (some q)) (va_up pd M pat0)) := by
      obtain ⟨h1, h2, q, hq, -, hg⟩ := hca
      subst hg
      exact ⟨(clP_made hc h1 hq).2, fun G9 h9 => ⟨h1, h2, q, clQ_ko (clP_made hc h1 hq).1 h9⟩⟩
    have fo : Gc o = some (.inl (Z.2 0, 1, .inr (.inl ov))) := hk _ _ ho (Or.inr ⟨_, _, rfl⟩)
    refine lv_i2l hx hb d_la_pattern_6 rfl ?_
    refine g_last S hE.1 hG fo 0 rfl (vp_in_nI (by omega) (by omega)) d_la_pattern_7 (fun H locs hG => ?_)
    rw [nI_clamp (show 0 < 2 ^ 31 by omega)] at hG
    have hG : gS (gA G s.heap.size) s.heap Z.1 cls (gup Gc o (.inl (Z.2 0, 1, .inr (.inl (vp_updL ov 0 rc.toInt64))))) H locs := hG
    generalize eG7 : gup Gc o (.inl (Z.2 0, 1, .inr (.inl (vp_updL ov 0 rc.toInt64)))) = G7 at hG
    have f7 : G7 o = some (.inl (Z.2 0, 1, .inr (.inl (vp_updL ov 0 rc.toInt64)))) := by rw [← eG7]; exact gup_self _ _ _
    have hk7 : kX mE G G7 := by rw [← eG7]; exact (hk.mono (fun _ h => Or.inl h)).tr (kX_out fo).1
    have hp7 := hp G7 (by rw [← eG7]; exact (kX_out fo).2)
    refine lv_goto (tgt := 14) hx hb d_la_pattern_8 (by decide) ?_
    refine lv_iconst (v := 0) hx hb d_la_pattern_14 (by decide) ?_
    refine W.widen (k := 1) (n := 6) (Nat.le_of_ble_eq_true rfl) (Nat.le_of_ble_eq_true rfl) ?_
    exact (W.iret hx hb hr (fun t9 ht9 hW9 => ⟨⟨_, _, rfl, ⟨_, f7, hk7, Or.inr (⟨rfl, rc, upL0 _ _, hp7⟩)⟩, by rw [ht9]; exact hG.1, hG.2.1⟩, hG.2.2.1.F ht9⟩) hG.2.2.1.2.2 d_la_pattern_15)

set_option maxHeartbeats 600000 in
set_option maxRecDepth 100000 in
theorem c_la_seed (l : Launch) (hl9 : l.stackTraces = false) (Z : gZ) (G : gh) (sz : Nat) (x o : Nat) {C E M D : Nat} {fk tp : Int32} {pt : Nat → Option Nat} {pd : Nat → Pat} {ov : Nat → Int64} (hcl : clQ Z G x C E M D fk tp pt pd) (ho : G o = some (.inl (Z.2 0, 1, .inr (.inl ov)))) (hbd : C ≤ 4 ∧ E ≤ 8 ∧ 1 ≤ D ∧ D ≤ 16 ∧ M ≤ 24) (n : Int32) : Met l y_la_seed (wd_la_seed :: Gall) ({ frames := 8, cells := 1, slots := 6, locals := 134 }) (va_Pc [.ref x, .int n, .ref o] (gPy Z G sz)) (va_Qi (fun (r : Int32) (G9 : gh) => ∃ ov9, G9 o = some (.inl (Z.2 0, 1, .inr (.inl ov9))) ∧ kX mE G G9 ∧ ((r = 1 ∧ (∀ j, ¬ okP pt pd n j) ∧ clQ Z G9 x C E M D fk tp pt pd) ∨ (r = 0 ∧ ∃ r9 : Int32, ov9 0 = r9.toInt64 ∧ (∃ j, okP pt pd n j ∧ clQ Z G9 x C E M D fk tp pt (va_up pd j (qsd (pd j) (lsC (nI D) tp C E D (pca (pd j)) (pva (pd j))))) ∧ r9 = if lsC (nI D) tp C E D (pca (pd j)) (pva (pd j)) = -1 then 1 else 0)))) (gW Z G sz) (gA G sz)) 1 6 (gA G sz) := by
  refine va_MetW (cc := b_la_seed) (maxL := 4) (ret := (some .int)) (hh := hh_la_seed) (by decide) rfl ?_
  intro p e s m args below meth c s₁ B hml hv
  obtain ⟨rfl, hN, hsz, ⟨hG, hE⟩, hX⟩ := hv
  subst hsz
  have hx := B.exec
  have hb := B.bytes
  have hr := B.returns
  have hlocks := B.notSynchronized
  have S : CallFix p m c b_la_seed 4 s _ Gall "PackSeedsLaw" := ⟨hx, hb, hml, findClass_of_methodNamed B.named, fun w hw => atoms_spec (ws := wd_la_seed :: Gall) B.pre w (List.mem_cons_of_mem _ hw)⟩
  have htab : c.exceptionTable.toList = tableOf hh_la_seed := vx_table (x := y_la_seed) B (atoms_spec (ws := wd_la_seed :: Gall) B.pre _ List.mem_cons_self)
  have hG : gS (gA G s.heap.size) s.heap Z.1 cls G s.heap [] := gS.start hG
  obtain ⟨hC, hE8, hD0, hD, hM⟩ := hbd
  obtain ⟨sh, ma, ro, pa, rw, hc⟩ := id hcl
  obtain ⟨fx, fs, fm, fro, fpa, hpt, hinj⟩ := id hc
  have hl := lv_entry ([.ref x, .int n, .ref o]) (n := 4) (Nat.le_of_ble_eq_true rfl)
  rw [lg_entry_eq]
  generalize (lg_sl ([.ref x, .int n, .ref o]) ++ List.replicate (4 - (lg_sl ([.ref x, .int n, .ref o])).length) Slot.unset).toArray = ls at hl ⊢
  have hl : lv_has ls 4 [(0, .ref x), (1, .int n), (2, .ref o)] := hl
  refine lv_aload_n hx hb d_la_seed_0 rfl (lv_at hl 2 rfl) ?_
  refine lv_iconst (v := nI 0) hx hb d_la_seed_1 (by decide) ?_
  refine lv_aload_n hx hb d_la_seed_2 rfl (lv_at hl 0 rfl) ?_
  refine lv_iload_n hx hb d_la_seed_3 rfl (lv_at hl 1 rfl) ?_
  refine g_hwi hG (g_xrunV (As := [.int n]) (rest := [.int (nI 0), .ref o]) S lk_la_31 k_ps_seed (c_ps_seed l hl9 Z G s.heap.size x fx fs hC hE8 fm hD0 hD fro fpa hpt hinj n) ⟨rfl, rfl⟩ ⟨(Nat.le_of_ble_eq_true rfl), (Nat.le_of_ble_eq_true rfl)⟩ (gPxV hG hE hX fx rfl) rfl hl.1 rfl (Nat.le_of_ble_eq_true rfl) d_la_seed_4 ⟨(Nat.le_of_ble_eq_true rfl), (Nat.le_of_ble_eq_true rfl)⟩) (fun E9 ce q9 H locs hE9 hG h9 hv9 hcl9 => ?_) (fun rc Gc H locs hca hG => ?_)
  · rcases hE9 with ⟨rfl, hth⟩
    refine vx_catch S.2.2.2.1 [] (⟨0, 9, 12, 19⟩ : ExceptionTableEntry) [] (htab.trans rfl) (fun z hz => nomatch hz) rfl (by decide) (S.2.2.2.2 _ tw_246) (va_Nw.use rfl (hE.2 _ nw_24)) h9 hv9 hcl9 ?_
    refine W.eq (g2 := F0 m 12 ls [.ref q9]) rfl ?_
    refine lv_astore_n (lv' := [(3, .ref q9), (0, .ref x), (1, .int n), (2, .ref o)]) hx hb d_la_seed_12 rfl hl (by decide) rfl (fun ls hl => ?_)
    refine lv_iconst (v := 1) hx hb d_la_seed_13 (by decide) ?_
    refine W.widen (k := 1) (n := 6) (Nat.le_of_ble_eq_true rfl) (Nat.le_of_ble_eq_true rfl) ?_
    exact (W.iret hx hb hr (fun t9 ht9 hW9 => ⟨⟨_, _, rfl, ⟨ov, ho, kX.rf, Or.inl ⟨rfl, hth, hcl⟩⟩, by rw [ht9]; exact hG.1, hG.2.1⟩, hG.2.2.1.F ht9⟩) hG.2.2.1.2.2 d_la_seed_14)
  · obtain ⟨hk, hp⟩ : kX noC G Gc ∧ ∀ G9 : gh, kX (fun e => ¬ oE e) Gc G9 → (∃ j, okP pt pd n j ∧ clQ Z G9 x C E M D fk tp pt (va_up pd j (qsd (pd j) (lsC (nI D) tp C E D (pca (pd j)) (pva (pd j))))) ∧ rc = if lsC (nI D) tp C E D (pca (pd j)) (pva (pd j)) = -1 then 1 else 0) := by
      obtain ⟨j, f, h1, hg, h2⟩ := hca
      subst hg
      exact ⟨(clP_rows hc f).2.tr (clP_pat (clP_rows hc f).1 _).2, fun G9 h9 => ⟨j, h1, clQ_ko (clP_pat (clP_rows hc f).1 _).1 h9, h2⟩⟩
    have fo : Gc o = some (.inl (Z.2 0, 1, .inr (.inl ov))) := hk _ _ ho (Or.inr ⟨_, _, rfl⟩)
    refine lv_i2l hx hb d_la_seed_7 rfl ?_
    refine g_last S hE.1 hG fo 0 rfl (vp_in_nI (by omega) (by omega)) d_la_seed_8 (fun H locs hG => ?_)
    rw [nI_clamp (show 0 < 2 ^ 31 by omega)] at hG
    have hG : gS (gA G s.heap.size) s.heap Z.1 cls (gup Gc o (.inl (Z.2 0, 1, .inr (.inl (vp_updL ov 0 rc.toInt64))))) H locs := hG
    generalize eG8 : gup Gc o (.inl (Z.2 0, 1, .inr (.inl (vp_updL ov 0 rc.toInt64)))) = G8 at hG
    have f8 : G8 o = some (.inl (Z.2 0, 1, .inr (.inl (vp_updL ov 0 rc.toInt64)))) := by rw [← eG8]; exact gup_self _ _ _
    have hk8 : kX mE G G8 := by rw [← eG8]; exact (hk.mono (fun _ h => Or.inl h)).tr (kX_out fo).1
    have hp8 := hp G8 (by rw [← eG8]; exact (kX_out fo).2)
    refine lv_goto (tgt := 15) hx hb d_la_seed_9 (by decide) ?_
    refine lv_iconst (v := 0) hx hb d_la_seed_15 (by decide) ?_
    refine W.widen (k := 1) (n := 6) (Nat.le_of_ble_eq_true rfl) (Nat.le_of_ble_eq_true rfl) ?_
    exact (W.iret hx hb hr (fun t9 ht9 hW9 => ⟨⟨_, _, rfl, ⟨_, f8, hk8, Or.inr (⟨rfl, rc, upL0 _ _, hp8⟩)⟩, by rw [ht9]; exact hG.1, hG.2.1⟩, hG.2.2.1.F ht9⟩) hG.2.2.1.2.2 d_la_seed_16)

set_option maxHeartbeats 600000 in
set_option maxRecDepth 100000 in
theorem c_la_found (l : Launch) (hl9 : l.stackTraces = false) (Z : gZ) (G : gh) (sz : Nat) (x o : Nat) {C E M D : Nat} {fk tp : Int32} {pt : Nat → Option Nat} {pd : Nat → Pat} {ov : Nat → Int64} (hcl : clQ Z G x C E M D fk tp pt pd) (ho : G o = some (.inl (Z.2 0, 1, .inr (.inl ov)))) (hbd : C ≤ 4 ∧ E ≤ 8 ∧ 1 ≤ D ∧ D ≤ 16 ∧ M ≤ 24) (n f0 : Int32) : Met l y_la_found (wd_la_found :: Gall) ({ frames := 8, cells := 2, slots := 12, locals := 137 }) (va_Pc [.ref x, .int n, .int f0, .ref o] (gPy Z G sz)) (va_Qi (fun (r : Int32) (G9 : gh) => ∃ ov9, G9 o = some (.inl (Z.2 0, 1, .inr (.inl ov9))) ∧ kX mE G G9 ∧ ((r = 1 ∧ ((∀ j, ¬ okP pt pd n j) ∨ ¬ ∃ k, k < 31 ∧ f0 = nI k) ∧ clQ Z G9 x C E M D fk tp pt pd) ∨ (r = 0 ∧ ∃ r9 : Int32, ov9 0 = zl r9 ∧ (∃ j f, okP pt pd n j ∧ f < 31 ∧ f0 = nI f ∧ clQ Z G9 x C E M D fk tp pt (va_up pd j (qfa (pd j) (pfa (pd j) ||| ((1 : Int32) <<< (nI f &&& 31))))) ∧ r9 = if pfa (pd j) &&& ((1 : Int32) <<< (nI f &&& 31)) = 0 then 1 else 0)))) (gW Z G sz) (gA G sz)) 2 12 (gA G sz) := by
  refine va_MetW (cc := b_la_found) (maxL := 5) (ret := (some .int)) (hh := hh_la_found) (by decide) rfl ?_
  intro p e s m args below meth c s₁ B hml hv
  obtain ⟨rfl, hN, hsz, ⟨hG, hE⟩, hX⟩ := hv
  subst hsz
  have hx := B.exec
  have hb := B.bytes
  have hr := B.returns
  have hlocks := B.notSynchronized
  have S : CallFix p m c b_la_found 5 s _ Gall "PackSeedsLaw" := ⟨hx, hb, hml, findClass_of_methodNamed B.named, fun w hw => atoms_spec (ws := wd_la_found :: Gall) B.pre w (List.mem_cons_of_mem _ hw)⟩
  have htab : c.exceptionTable.toList = tableOf hh_la_found := vx_table (x := y_la_found) B (atoms_spec (ws := wd_la_found :: Gall) B.pre _ List.mem_cons_self)
  have hG : gS (gA G s.heap.size) s.heap Z.1 cls G s.heap [] := gS.start hG
  obtain ⟨hC, hE8, hD0, hD, hM⟩ := hbd
  obtain ⟨sh, ma, ro, pa, rw, hc⟩ := id hcl
  obtain ⟨fx, fs, fm, fro, fpa, hpt, hinj⟩ := id hc
  have hl := lv_entry ([.ref x, .int n, .int f0, .ref o]) (n := 5) (Nat.le_of_ble_eq_true rfl)
  rw [lg_entry_eq]
  generalize (lg_sl ([.ref x, .int n, .int f0, .ref o]) ++ List.replicate (5 - (lg_sl ([.ref x, .int n, .int f0, .ref o])).length) Slot.unset).toArray = ls at hl ⊢
  have hl : lv_has ls 5 [(0, .ref x), (1, .int n), (2, .int f0), (3, .ref o)] := hl
  refine lv_aload_n hx hb d_la_found_0 rfl (lv_at hl 3 rfl) ?_
  refine lv_iconst (v := nI 0) hx hb d_la_found_1 (by decide) ?_
  refine lv_aload_n hx hb d_la_found_2 rfl (lv_at hl 0 rfl) ?_
  refine lv_iload_n hx hb d_la_found_3 rfl (lv_at hl 1 rfl) ?_
  refine lv_iload_n hx hb d_la_found_4 rfl (lv_at hl 2 rfl) ?_
  refine g_hwi hG (g_xrunV (As := [.int n, .int f0]) (rest := [.int (nI 0), .ref o]) S lk_la_42 k_ps_found (c_ps_found l hl9 Z G s.heap.size x fx fpa hpt hinj n f0) ⟨rfl, rfl⟩ ⟨(Nat.le_of_ble_eq_true rfl), (Nat.le_of_ble_eq_true rfl)⟩ (gPxV hG hE hX fx rfl) rfl hl.1 rfl (Nat.le_of_ble_eq_true rfl) d_la_found_5 ⟨(Nat.le_of_ble_eq_true rfl), (Nat.le_of_ble_eq_true rfl)⟩) (fun E9 ce q9 H locs hE9 hG h9 hv9 hcl9 => ?_) (fun rc Gc H locs hca hG => ?_)
  · rcases hE9 with ⟨rfl, hth⟩
    refine vx_catch S.2.2.2.1 [] (⟨0, 17, 20, 19⟩ : ExceptionTableEntry) [] (htab.trans rfl) (fun z hz => nomatch hz) rfl (by decide) (S.2.2.2.2 _ tw_246) (va_Nw.use rfl (hE.2 _ nw_24)) h9 hv9 hcl9 ?_
    refine W.eq (g2 := F0 m 20 ls [.ref q9]) rfl ?_
    refine lv_astore (lv' := [(4, .ref q9), (0, .ref x), (1, .int n), (2, .int f0), (3, .ref o)]) hx hb d_la_found_20 hl (by decide) rfl (fun ls hl => ?_)
    refine lv_iconst (v := 1) hx hb d_la_found_22 (by decide) ?_
    refine W.widen (k := 2) (n := 12) (Nat.le_of_ble_eq_true rfl) (Nat.le_of_ble_eq_true rfl) ?_
    exact (W.iret hx hb hr (fun t9 ht9 hW9 => ⟨⟨_, _, rfl, ⟨ov, ho, kX.rf, Or.inl ⟨rfl, hth, hcl⟩⟩, by rw [ht9]; exact hG.1, hG.2.1⟩, hG.2.2.1.F ht9⟩) hG.2.2.1.2.2 d_la_found_23)
  · obtain ⟨hk, hp⟩ : kX noC G Gc ∧ ∀ G9 : gh, kX (fun e => ¬ oE e) Gc G9 → (∃ j f, okP pt pd n j ∧ f < 31 ∧ f0 = nI f ∧ clQ Z G9 x C E M D fk tp pt (va_up pd j (qfa (pd j) (pfa (pd j) ||| ((1 : Int32) <<< (nI f &&& 31))))) ∧ rc = if pfa (pd j) &&& ((1 : Int32) <<< (nI f &&& 31)) = 0 then 1 else 0) := by
      obtain ⟨j, f, h1, h2, h3, hg, h4⟩ := hca
      subst hg
      exact ⟨(clP_pat hc _).2, fun G9 h9 => ⟨j, f, h1, h2, h3, clQ_ko (clP_pat hc _).1 h9, h4⟩⟩
    have fo : Gc o = some (.inl (Z.2 0, 1, .inr (.inl ov))) := hk _ _ ho (Or.inr ⟨_, _, rfl⟩)
    refine lv_if_eq (tgt := 15) hx hb d_la_found_8 (by decide) (fun c8 => ?_) (fun c8 => ?_)
    · refine lv_lconst (v := 0) hx hb d_la_found_15 (by decide) ?_
      refine g_last S hE.1 hG fo 0 rfl (vp_in_nI (by omega) (by omega)) d_la_found_16 (fun H locs hG => ?_)
      rw [nI_clamp (show 0 < 2 ^ 31 by omega)] at hG
      have hG : gS (gA G s.heap.size) s.heap Z.1 cls (gup Gc o (.inl (Z.2 0, 1, .inr (.inl (vp_updL ov 0 0))))) H locs := hG
      generalize eG16 : gup Gc o (.inl (Z.2 0, 1, .inr (.inl (vp_updL ov 0 0)))) = G16 at hG
      have f16 : G16 o = some (.inl (Z.2 0, 1, .inr (.inl (vp_updL ov 0 0)))) := by rw [← eG16]; exact gup_self _ _ _
      have hk16 : kX mE G G16 := by rw [← eG16]; exact (hk.mono (fun _ h => Or.inl h)).tr (kX_out fo).1
      have hp16 := hp G16 (by rw [← eG16]; exact (kX_out fo).2)
      refine lv_goto (tgt := 24) hx hb d_la_found_17 (by decide) ?_
      refine lv_iconst (v := 0) hx hb d_la_found_24 (by decide) ?_
      refine W.widen (k := 2) (n := 12) (Nat.le_of_ble_eq_true rfl) (Nat.le_of_ble_eq_true rfl) ?_
      exact (W.iret hx hb hr (fun t9 ht9 hW9 => ⟨⟨_, _, rfl, ⟨_, f16, hk16, Or.inr (⟨rfl, rc, zl0 c8, hp16⟩)⟩, by rw [ht9]; exact hG.1, hG.2.1⟩, hG.2.2.1.F ht9⟩) hG.2.2.1.2.2 d_la_found_25)
    · refine lv_lconst (v := 1) hx hb d_la_found_11 (by decide) ?_
      refine lv_goto (tgt := 16) hx hb d_la_found_12 (by decide) ?_
      refine g_last S hE.1 hG fo 0 rfl (vp_in_nI (by omega) (by omega)) d_la_found_16 (fun H locs hG => ?_)
      rw [nI_clamp (show 0 < 2 ^ 31 by omega)] at hG
      have hG : gS (gA G s.heap.size) s.heap Z.1 cls (gup Gc o (.inl (Z.2 0, 1, .inr (.inl (vp_updL ov 0 1))))) H locs := hG
      generalize eG16 : gup Gc o (.inl (Z.2 0, 1, .inr (.inl (vp_updL ov 0 1)))) = G16 at hG
      have f16 : G16 o = some (.inl (Z.2 0, 1, .inr (.inl (vp_updL ov 0 1)))) := by rw [← eG16]; exact gup_self _ _ _
      have hk16 : kX mE G G16 := by rw [← eG16]; exact (hk.mono (fun _ h => Or.inl h)).tr (kX_out fo).1
      have hp16 := hp G16 (by rw [← eG16]; exact (kX_out fo).2)
      refine lv_goto (tgt := 24) hx hb d_la_found_17 (by decide) ?_
      refine lv_iconst (v := 0) hx hb d_la_found_24 (by decide) ?_
      refine W.widen (k := 2) (n := 12) (Nat.le_of_ble_eq_true rfl) (Nat.le_of_ble_eq_true rfl) ?_
      exact (W.iret hx hb hr (fun t9 ht9 hW9 => ⟨⟨_, _, rfl, ⟨_, f16, hk16, Or.inr (⟨rfl, rc, zl1 c8, hp16⟩)⟩, by rw [ht9]; exact hG.1, hG.2.1⟩, hG.2.2.1.F ht9⟩) hG.2.2.1.2.2 d_la_found_25)

set_option maxHeartbeats 600000 in
set_option maxRecDepth 100000 in
theorem c_la_mask (l : Launch) (hl9 : l.stackTraces = false) (Z : gZ) (G : gh) (sz : Nat) (x o : Nat) {C E M D : Nat} {fk tp : Int32} {pt : Nat → Option Nat} {pd : Nat → Pat} {ov : Nat → Int64} (hcl : clQ Z G x C E M D fk tp pt pd) (ho : G o = some (.inl (Z.2 0, 1, .inr (.inl ov)))) (hbd : C ≤ 4 ∧ E ≤ 8 ∧ 1 ≤ D ∧ D ≤ 16 ∧ M ≤ 24) (n c0 e0 : Int32) : Met l y_la_mask (wd_la_mask :: Gall) ({ frames := 8, cells := 2, slots := 12, locals := 138 }) (va_Pc [.ref x, .int n, .int c0, .int e0, .ref o] (gPy Z G sz)) (va_Qi (fun (r : Int32) (G9 : gh) => ∃ ov9, G9 o = some (.inl (Z.2 0, 1, .inr (.inl ov9))) ∧ kX mE G G9 ∧ ((r = 1 ∧ ((∀ j, ¬ okP pt pd n j) ∨ ¬ ∃ k j, k < C ∧ j < E ∧ c0 = nI k ∧ e0 = nI j) ∧ clQ Z G9 x C E M D fk tp pt pd) ∨ (r = 0 ∧ ∃ r9 : Int32, ov9 0 = zl r9 ∧ (∃ j k q, okP pt pd n j ∧ k < C ∧ q < E ∧ c0 = nI k ∧ e0 = nI q ∧ clQ Z G9 x C E M D fk tp pt (va_up pd j (qmk (pd j) (pmk (pd j) ||| plC (nI k) (nI q)))) ∧ r9 = if pmk (pd j) &&& plC (nI k) (nI q) = 0 then 1 else 0)))) (gW Z G sz) (gA G sz)) 2 12 (gA G sz) := by
  refine va_MetW (cc := b_la_mask) (maxL := 6) (ret := (some .int)) (hh := hh_la_mask) (by decide) rfl ?_
  intro p e s m args below meth c s₁ B hml hv
  obtain ⟨rfl, hN, hsz, ⟨hG, hE⟩, hX⟩ := hv
  subst hsz
  have hx := B.exec
  have hb := B.bytes
  have hr := B.returns
  have hlocks := B.notSynchronized
  have S : CallFix p m c b_la_mask 6 s _ Gall "PackSeedsLaw" := ⟨hx, hb, hml, findClass_of_methodNamed B.named, fun w hw => atoms_spec (ws := wd_la_mask :: Gall) B.pre w (List.mem_cons_of_mem _ hw)⟩
  have htab : c.exceptionTable.toList = tableOf hh_la_mask := vx_table (x := y_la_mask) B (atoms_spec (ws := wd_la_mask :: Gall) B.pre _ List.mem_cons_self)
  have hG : gS (gA G s.heap.size) s.heap Z.1 cls G s.heap [] := gS.start hG
  obtain ⟨hC, hE8, hD0, hD, hM⟩ := hbd
  obtain ⟨sh, ma, ro, pa, rw, hc⟩ := id hcl
  obtain ⟨fx, fs, fm, fro, fpa, hpt, hinj⟩ := id hc
  have hl := lv_entry ([.ref x, .int n, .int c0, .int e0, .ref o]) (n := 6) (Nat.le_of_ble_eq_true rfl)
  rw [lg_entry_eq]
  generalize (lg_sl ([.ref x, .int n, .int c0, .int e0, .ref o]) ++ List.replicate (6 - (lg_sl ([.ref x, .int n, .int c0, .int e0, .ref o])).length) Slot.unset).toArray = ls at hl ⊢
  have hl : lv_has ls 6 [(0, .ref x), (1, .int n), (2, .int c0), (3, .int e0), (4, .ref o)] := hl
  refine lv_aload hx hb d_la_mask_0 (lv_at hl 4 rfl) ?_
  refine lv_iconst (v := nI 0) hx hb d_la_mask_2 (by decide) ?_
  refine lv_aload_n hx hb d_la_mask_3 rfl (lv_at hl 0 rfl) ?_
  refine lv_iload_n hx hb d_la_mask_4 rfl (lv_at hl 1 rfl) ?_
  refine lv_iload_n hx hb d_la_mask_5 rfl (lv_at hl 2 rfl) ?_
  refine lv_iload_n hx hb d_la_mask_6 rfl (lv_at hl 3 rfl) ?_
  refine g_hwi hG (g_xrunV (As := [.int n, .int c0, .int e0]) (rest := [.int (nI 0), .ref o]) S lk_la_49 k_ps_mask (c_ps_mask l hl9 Z G s.heap.size x fx fs hC hE8 fpa hpt hinj n c0 e0) ⟨rfl, rfl⟩ ⟨(Nat.le_of_ble_eq_true rfl), (Nat.le_of_ble_eq_true rfl)⟩ (gPxV hG hE hX fx rfl) rfl hl.1 rfl (Nat.le_of_ble_eq_true rfl) d_la_mask_7 ⟨(Nat.le_of_ble_eq_true rfl), (Nat.le_of_ble_eq_true rfl)⟩) (fun E9 ce q9 H locs hE9 hG h9 hv9 hcl9 => ?_) (fun rc Gc H locs hca hG => ?_)
  · rcases hE9 with ⟨rfl, hth⟩
    refine vx_catch S.2.2.2.1 [] (⟨0, 19, 22, 19⟩ : ExceptionTableEntry) [] (htab.trans rfl) (fun z hz => nomatch hz) rfl (by decide) (S.2.2.2.2 _ tw_246) (va_Nw.use rfl (hE.2 _ nw_24)) h9 hv9 hcl9 ?_
    refine W.eq (g2 := F0 m 22 ls [.ref q9]) rfl ?_
    refine lv_astore (lv' := [(5, .ref q9), (0, .ref x), (1, .int n), (2, .int c0), (3, .int e0), (4, .ref o)]) hx hb d_la_mask_22 hl (by decide) rfl (fun ls hl => ?_)
    refine lv_iconst (v := 1) hx hb d_la_mask_24 (by decide) ?_
    refine W.widen (k := 2) (n := 12) (Nat.le_of_ble_eq_true rfl) (Nat.le_of_ble_eq_true rfl) ?_
    exact (W.iret hx hb hr (fun t9 ht9 hW9 => ⟨⟨_, _, rfl, ⟨ov, ho, kX.rf, Or.inl ⟨rfl, hth, hcl⟩⟩, by rw [ht9]; exact hG.1, hG.2.1⟩, hG.2.2.1.F ht9⟩) hG.2.2.1.2.2 d_la_mask_25)
  · obtain ⟨hk, hp⟩ : kX noC G Gc ∧ ∀ G9 : gh, kX (fun e => ¬ oE e) Gc G9 → (∃ j k q, okP pt pd n j ∧ k < C ∧ q < E ∧ c0 = nI k ∧ e0 = nI q ∧ clQ Z G9 x C E M D fk tp pt (va_up pd j (qmk (pd j) (pmk (pd j) ||| plC (nI k) (nI q)))) ∧ rc = if pmk (pd j) &&& plC (nI k) (nI q) = 0 then 1 else 0) := by
      obtain ⟨j, k, q, h1, h2, h3, h4, h5, hg, h6⟩ := hca
      subst hg
      exact ⟨(clP_pat hc _).2, fun G9 h9 => ⟨j, k, q, h1, h2, h3, h4, h5, clQ_ko (clP_pat hc _).1 h9, h6⟩⟩
    have fo : Gc o = some (.inl (Z.2 0, 1, .inr (.inl ov))) := hk _ _ ho (Or.inr ⟨_, _, rfl⟩)
    refine lv_if_eq (tgt := 17) hx hb d_la_mask_10 (by decide) (fun c10 => ?_) (fun c10 => ?_)
    · refine lv_lconst (v := 0) hx hb d_la_mask_17 (by decide) ?_
      refine g_last S hE.1 hG fo 0 rfl (vp_in_nI (by omega) (by omega)) d_la_mask_18 (fun H locs hG => ?_)
      rw [nI_clamp (show 0 < 2 ^ 31 by omega)] at hG
      have hG : gS (gA G s.heap.size) s.heap Z.1 cls (gup Gc o (.inl (Z.2 0, 1, .inr (.inl (vp_updL ov 0 0))))) H locs := hG
      generalize eG18 : gup Gc o (.inl (Z.2 0, 1, .inr (.inl (vp_updL ov 0 0)))) = G18 at hG
      have f18 : G18 o = some (.inl (Z.2 0, 1, .inr (.inl (vp_updL ov 0 0)))) := by rw [← eG18]; exact gup_self _ _ _
      have hk18 : kX mE G G18 := by rw [← eG18]; exact (hk.mono (fun _ h => Or.inl h)).tr (kX_out fo).1
      have hp18 := hp G18 (by rw [← eG18]; exact (kX_out fo).2)
      refine lv_goto (tgt := 26) hx hb d_la_mask_19 (by decide) ?_
      refine lv_iconst (v := 0) hx hb d_la_mask_26 (by decide) ?_
      refine W.widen (k := 2) (n := 12) (Nat.le_of_ble_eq_true rfl) (Nat.le_of_ble_eq_true rfl) ?_
      exact (W.iret hx hb hr (fun t9 ht9 hW9 => ⟨⟨_, _, rfl, ⟨_, f18, hk18, Or.inr (⟨rfl, rc, zl0 c10, hp18⟩)⟩, by rw [ht9]; exact hG.1, hG.2.1⟩, hG.2.2.1.F ht9⟩) hG.2.2.1.2.2 d_la_mask_27)
    · refine lv_lconst (v := 1) hx hb d_la_mask_13 (by decide) ?_
      refine lv_goto (tgt := 18) hx hb d_la_mask_14 (by decide) ?_
      refine g_last S hE.1 hG fo 0 rfl (vp_in_nI (by omega) (by omega)) d_la_mask_18 (fun H locs hG => ?_)
      rw [nI_clamp (show 0 < 2 ^ 31 by omega)] at hG
      have hG : gS (gA G s.heap.size) s.heap Z.1 cls (gup Gc o (.inl (Z.2 0, 1, .inr (.inl (vp_updL ov 0 1))))) H locs := hG
      generalize eG18 : gup Gc o (.inl (Z.2 0, 1, .inr (.inl (vp_updL ov 0 1)))) = G18 at hG
      have f18 : G18 o = some (.inl (Z.2 0, 1, .inr (.inl (vp_updL ov 0 1)))) := by rw [← eG18]; exact gup_self _ _ _
      have hk18 : kX mE G G18 := by rw [← eG18]; exact (hk.mono (fun _ h => Or.inl h)).tr (kX_out fo).1
      have hp18 := hp G18 (by rw [← eG18]; exact (kX_out fo).2)
      refine lv_goto (tgt := 26) hx hb d_la_mask_19 (by decide) ?_
      refine lv_iconst (v := 0) hx hb d_la_mask_26 (by decide) ?_
      refine W.widen (k := 2) (n := 12) (Nat.le_of_ble_eq_true rfl) (Nat.le_of_ble_eq_true rfl) ?_
      exact (W.iret hx hb hr (fun t9 ht9 hW9 => ⟨⟨_, _, rfl, ⟨_, f18, hk18, Or.inr (⟨rfl, rc, zl1 c10, hp18⟩)⟩, by rw [ht9]; exact hG.1, hG.2.1⟩, hG.2.2.1.F ht9⟩) hG.2.2.1.2.2 d_la_mask_27)

set_option maxHeartbeats 600000 in
set_option maxRecDepth 100000 in
theorem c_la_fill (l : Launch) (hl9 : l.stackTraces = false) (Z : gZ) (G : gh) (sz : Nat) (x o : Nat) {C E M D : Nat} {fk tp : Int32} {pt : Nat → Option Nat} {pd : Nat → Pat} {ov : Nat → Int64} (hcl : clQ Z G x C E M D fk tp pt pd) (ho : G o = some (.inl (Z.2 0, 1, .inr (.inl ov)))) (hbd : C ≤ 4 ∧ E ≤ 8 ∧ 1 ≤ D ∧ D ≤ 16 ∧ M ≤ 24) (v : Int32) : Met l y_la_fill (wd_la_fill :: Gall) ({ frames := 7, cells := 1, slots := 6, locals := 112 }) (va_Pc [.ref x, .int v, .ref o] (gPy Z G sz)) (va_Qi (fun (r : Int32) (G9 : gh) => ∃ ov9, G9 o = some (.inl (Z.2 0, 1, .inr (.inl ov9))) ∧ kX mE G G9 ∧ ((r = 1 ∧ (¬ ∃ k, k < 3 ∧ v = nI k) ∧ clQ Z G9 x C E M D fk tp pt pd) ∨ (r = 0 ∧ ∃ r9 : Int32, ov9 0 = zl r9 ∧ ((∃ k, k < 3 ∧ v = nI k) ∧ clQ Z G9 x C E M D v tp pt pd ∧ r9 = if v = fk then 0 else 1)))) (gW Z G sz) (gA G sz)) 1 6 (gA G sz) := by
  refine va_MetW (cc := b_la_fill) (maxL := 4) (ret := (some .int)) (hh := hh_la_fill) (by decide) rfl ?_
  intro p e s m args below meth c s₁ B hml hv
  obtain ⟨rfl, hN, hsz, ⟨hG, hE⟩, hX⟩ := hv
  subst hsz
  have hx := B.exec
  have hb := B.bytes
  have hr := B.returns
  have hlocks := B.notSynchronized
  have S : CallFix p m c b_la_fill 4 s _ Gall "PackSeedsLaw" := ⟨hx, hb, hml, findClass_of_methodNamed B.named, fun w hw => atoms_spec (ws := wd_la_fill :: Gall) B.pre w (List.mem_cons_of_mem _ hw)⟩
  have htab : c.exceptionTable.toList = tableOf hh_la_fill := vx_table (x := y_la_fill) B (atoms_spec (ws := wd_la_fill :: Gall) B.pre _ List.mem_cons_self)
  have hG : gS (gA G s.heap.size) s.heap Z.1 cls G s.heap [] := gS.start hG
  obtain ⟨hC, hE8, hD0, hD, hM⟩ := hbd
  obtain ⟨sh, ma, ro, pa, rw, hc⟩ := id hcl
  obtain ⟨fx, fs, fm, fro, fpa, hpt, hinj⟩ := id hc
  have hl := lv_entry ([.ref x, .int v, .ref o]) (n := 4) (Nat.le_of_ble_eq_true rfl)
  rw [lg_entry_eq]
  generalize (lg_sl ([.ref x, .int v, .ref o]) ++ List.replicate (4 - (lg_sl ([.ref x, .int v, .ref o])).length) Slot.unset).toArray = ls at hl ⊢
  have hl : lv_has ls 4 [(0, .ref x), (1, .int v), (2, .ref o)] := hl
  refine lv_aload_n hx hb d_la_fill_0 rfl (lv_at hl 2 rfl) ?_
  refine lv_iconst (v := nI 0) hx hb d_la_fill_1 (by decide) ?_
  refine lv_aload_n hx hb d_la_fill_2 rfl (lv_at hl 0 rfl) ?_
  refine lv_iload_n hx hb d_la_fill_3 rfl (lv_at hl 1 rfl) ?_
  refine g_hwi hG (g_xrunV (As := [.int v]) (rest := [.int (nI 0), .ref o]) S lk_la_60 k_ps_fill (c_ps_fill l hl9 Z G s.heap.size x fx v) ⟨rfl, rfl⟩ ⟨(Nat.le_of_ble_eq_true rfl), (Nat.le_of_ble_eq_true rfl)⟩ (gPxV hG hE hX fx rfl) rfl hl.1 rfl (Nat.le_of_ble_eq_true rfl) d_la_fill_4 ⟨(Nat.le_of_ble_eq_true rfl), (Nat.le_of_ble_eq_true rfl)⟩) (fun E9 ce q9 H locs hE9 hG h9 hv9 hcl9 => ?_) (fun rc Gc H locs hca hG => ?_)
  · rcases hE9 with ⟨rfl, hth⟩
    refine vx_catch S.2.2.2.1 [] (⟨0, 16, 19, 21⟩ : ExceptionTableEntry) [] (htab.trans rfl) (fun z hz => nomatch hz) rfl (by decide) (S.2.2.2.2 _ tw_247) (va_Nw.use rfl (hE.2 _ nw_25)) h9 hv9 hcl9 ?_
    refine W.eq (g2 := F0 m 19 ls [.ref q9]) rfl ?_
    refine lv_astore_n (lv' := [(3, .ref q9), (0, .ref x), (1, .int v), (2, .ref o)]) hx hb d_la_fill_19 rfl hl (by decide) rfl (fun ls hl => ?_)
    refine lv_iconst (v := 1) hx hb d_la_fill_20 (by decide) ?_
    refine W.widen (k := 1) (n := 6) (Nat.le_of_ble_eq_true rfl) (Nat.le_of_ble_eq_true rfl) ?_
    exact (W.iret hx hb hr (fun t9 ht9 hW9 => ⟨⟨_, _, rfl, ⟨ov, ho, kX.rf, Or.inl ⟨rfl, hth, hcl⟩⟩, by rw [ht9]; exact hG.1, hG.2.1⟩, hG.2.2.1.F ht9⟩) hG.2.2.1.2.2 d_la_fill_21)
  · obtain ⟨hk, hp⟩ : kX noC G Gc ∧ ∀ G9 : gh, kX (fun e => ¬ oE e) Gc G9 → ((∃ k, k < 3 ∧ v = nI k) ∧ clQ Z G9 x C E M D v tp pt pd ∧ rc = if v = fk then 0 else 1) := by
      obtain ⟨h1, hg, h2⟩ := hca
      subst hg
      exact ⟨(clP_obj hc M v).2, fun G9 h9 => ⟨h1, clQ_ko (clP_obj hc M v).1 h9, h2⟩⟩
    have fo : Gc o = some (.inl (Z.2 0, 1, .inr (.inl ov))) := hk _ _ ho (Or.inr ⟨_, _, rfl⟩)
    refine lv_if_eq (tgt := 14) hx hb d_la_fill_7 (by decide) (fun c7 => ?_) (fun c7 => ?_)
    · refine lv_lconst (v := 0) hx hb d_la_fill_14 (by decide) ?_
      refine g_last S hE.1 hG fo 0 rfl (vp_in_nI (by omega) (by omega)) d_la_fill_15 (fun H locs hG => ?_)
      rw [nI_clamp (show 0 < 2 ^ 31 by omega)] at hG
      have hG : gS (gA G s.heap.size) s.heap Z.1 cls (gup Gc o (.inl (Z.2 0, 1, .inr (.inl (vp_updL ov 0 0))))) H locs := hG
      generalize eG15 : gup Gc o (.inl (Z.2 0, 1, .inr (.inl (vp_updL ov 0 0)))) = G15 at hG
      have f15 : G15 o = some (.inl (Z.2 0, 1, .inr (.inl (vp_updL ov 0 0)))) := by rw [← eG15]; exact gup_self _ _ _
      have hk15 : kX mE G G15 := by rw [← eG15]; exact (hk.mono (fun _ h => Or.inl h)).tr (kX_out fo).1
      have hp15 := hp G15 (by rw [← eG15]; exact (kX_out fo).2)
      refine lv_goto (tgt := 22) hx hb d_la_fill_16 (by decide) ?_
      refine lv_iconst (v := 0) hx hb d_la_fill_22 (by decide) ?_
      refine W.widen (k := 1) (n := 6) (Nat.le_of_ble_eq_true rfl) (Nat.le_of_ble_eq_true rfl) ?_
      exact (W.iret hx hb hr (fun t9 ht9 hW9 => ⟨⟨_, _, rfl, ⟨_, f15, hk15, Or.inr (⟨rfl, rc, zl0 c7, hp15⟩)⟩, by rw [ht9]; exact hG.1, hG.2.1⟩, hG.2.2.1.F ht9⟩) hG.2.2.1.2.2 d_la_fill_23)
    · refine lv_lconst (v := 1) hx hb d_la_fill_10 (by decide) ?_
      refine lv_goto (tgt := 15) hx hb d_la_fill_11 (by decide) ?_
      refine g_last S hE.1 hG fo 0 rfl (vp_in_nI (by omega) (by omega)) d_la_fill_15 (fun H locs hG => ?_)
      rw [nI_clamp (show 0 < 2 ^ 31 by omega)] at hG
      have hG : gS (gA G s.heap.size) s.heap Z.1 cls (gup Gc o (.inl (Z.2 0, 1, .inr (.inl (vp_updL ov 0 1))))) H locs := hG
      generalize eG15 : gup Gc o (.inl (Z.2 0, 1, .inr (.inl (vp_updL ov 0 1)))) = G15 at hG
      have f15 : G15 o = some (.inl (Z.2 0, 1, .inr (.inl (vp_updL ov 0 1)))) := by rw [← eG15]; exact gup_self _ _ _
      have hk15 : kX mE G G15 := by rw [← eG15]; exact (hk.mono (fun _ h => Or.inl h)).tr (kX_out fo).1
      have hp15 := hp G15 (by rw [← eG15]; exact (kX_out fo).2)
      refine lv_goto (tgt := 22) hx hb d_la_fill_16 (by decide) ?_
      refine lv_iconst (v := 0) hx hb d_la_fill_22 (by decide) ?_
      refine W.widen (k := 1) (n := 6) (Nat.le_of_ble_eq_true rfl) (Nat.le_of_ble_eq_true rfl) ?_
      exact (W.iret hx hb hr (fun t9 ht9 hW9 => ⟨⟨_, _, rfl, ⟨_, f15, hk15, Or.inr (⟨rfl, rc, zl1 c7, hp15⟩)⟩, by rw [ht9]; exact hG.1, hG.2.1⟩, hG.2.2.1.F ht9⟩) hG.2.2.1.2.2 d_la_fill_23)

set_option maxHeartbeats 600000 in
set_option maxRecDepth 100000 in
theorem c_la_care (l : Launch) (hl9 : l.stackTraces = false) (Z : gZ) (G : gh) (sz : Nat) (x o : Nat) {C E M D : Nat} {fk tp : Int32} {pt : Nat → Option Nat} {pd : Nat → Pat} {ov : Nat → Int64} (hcl : clQ Z G x C E M D fk tp pt pd) (ho : G o = some (.inl (Z.2 0, 1, .inr (.inl ov)))) (hbd : C ≤ 4 ∧ E ≤ 8 ∧ 1 ≤ D ∧ D ≤ 16 ∧ M ≤ 24) (n c0 e0 v : Int32) : Met l y_la_care (wd_la_care :: Gall) ({ frames := 8, cells := 3, slots := 18, locals := 138 }) (va_Pc [.ref x, .int n, .int c0, .int e0, .int v, .ref o] (gPy Z G sz)) (va_Qi (fun (r : Int32) (G9 : gh) => ∃ ov9, G9 o = some (.inl (Z.2 0, 1, .inr (.inl ov9))) ∧ kX mE G G9 ∧ ((r = 1 ∧ ((∀ j, ¬ okP pt pd n j) ∨ ¬ ∃ k j, k < C ∧ j < E ∧ c0 = nI k ∧ e0 = nI j) ∧ clQ Z G9 x C E M D fk tp pt pd) ∨ (r = 2 ∧ ((∃ j, okP pt pd n j) ∧ (∃ k j, k < C ∧ j < E ∧ c0 = nI k ∧ e0 = nI j) ∧ ¬ (v = -1 ∨ v = 0 ∨ v = 1)) ∧ clQ Z G9 x C E M D fk tp pt pd) ∨ (r = 0 ∧ ∃ r9 : Int32, ov9 0 = zl r9 ∧ (∃ j k q, okP pt pd n j ∧ k < C ∧ q < E ∧ c0 = nI k ∧ e0 = nI q ∧ (v = -1 ∨ v = 0 ∨ v = 1) ∧ ((carC (pca (pd j)) (pva (pd j)) (plC (nI k) (nI q)) = v ∧ r9 = 0 ∧ clQ Z G9 x C E M D fk tp pt pd) ∨ (¬ carC (pca (pd j)) (pva (pd j)) (plC (nI k) (nI q)) = v ∧ r9 = 1 ∧ clQ Z G9 x C E M D fk tp pt (va_up pd j (qcare (pd j) (plC (nI k) (nI q)) v)))))))) (gW Z G sz) (gA G sz)) 3 18 (gA G sz) := by
  refine va_MetW (cc := b_la_care) (maxL := 7) (ret := (some .int)) (hh := hh_la_care) (by decide) rfl ?_
  intro p e s m args below meth c s₁ B hml hv
  obtain ⟨rfl, hN, hsz, ⟨hG, hE⟩, hX⟩ := hv
  subst hsz
  have hx := B.exec
  have hb := B.bytes
  have hr := B.returns
  have hlocks := B.notSynchronized
  have S : CallFix p m c b_la_care 7 s _ Gall "PackSeedsLaw" := ⟨hx, hb, hml, findClass_of_methodNamed B.named, fun w hw => atoms_spec (ws := wd_la_care :: Gall) B.pre w (List.mem_cons_of_mem _ hw)⟩
  have htab : c.exceptionTable.toList = tableOf hh_la_care := vx_table (x := y_la_care) B (atoms_spec (ws := wd_la_care :: Gall) B.pre _ List.mem_cons_self)
  have hG : gS (gA G s.heap.size) s.heap Z.1 cls G s.heap [] := gS.start hG
  obtain ⟨hC, hE8, hD0, hD, hM⟩ := hbd
  obtain ⟨sh, ma, ro, pa, rw, hc⟩ := id hcl
  obtain ⟨fx, fs, fm, fro, fpa, hpt, hinj⟩ := id hc
  have hl := lv_entry ([.ref x, .int n, .int c0, .int e0, .int v, .ref o]) (n := 7) (Nat.le_of_ble_eq_true rfl)
  rw [lg_entry_eq]
  generalize (lg_sl ([.ref x, .int n, .int c0, .int e0, .int v, .ref o]) ++ List.replicate (7 - (lg_sl ([.ref x, .int n, .int c0, .int e0, .int v, .ref o])).length) Slot.unset).toArray = ls at hl ⊢
  have hl : lv_has ls 7 [(0, .ref x), (1, .int n), (2, .int c0), (3, .int e0), (4, .int v), (5, .ref o)] := hl
  refine lv_aload hx hb d_la_care_0 (lv_at hl 5 rfl) ?_
  refine lv_iconst (v := nI 0) hx hb d_la_care_2 (by decide) ?_
  refine lv_aload_n hx hb d_la_care_3 rfl (lv_at hl 0 rfl) ?_
  refine lv_iload_n hx hb d_la_care_4 rfl (lv_at hl 1 rfl) ?_
  refine lv_iload_n hx hb d_la_care_5 rfl (lv_at hl 2 rfl) ?_
  refine lv_iload_n hx hb d_la_care_6 rfl (lv_at hl 3 rfl) ?_
  refine lv_iload hx hb d_la_care_7 (lv_at hl 4 rfl) ?_
  refine g_hwi hG (g_xrunV (As := [.int n, .int c0, .int e0, .int v]) (rest := [.int (nI 0), .ref o]) S lk_la_15 k_ps_care (c_ps_care l hl9 Z G s.heap.size x fx fs hC hE8 fpa hpt hinj n c0 e0 v) ⟨rfl, rfl⟩ ⟨(Nat.le_of_ble_eq_true rfl), (Nat.le_of_ble_eq_true rfl)⟩ (gPxV hG hE hX fx rfl) rfl hl.1 rfl (Nat.le_of_ble_eq_true rfl) d_la_care_9 ⟨(Nat.le_of_ble_eq_true rfl), (Nat.le_of_ble_eq_true rfl)⟩) (fun E9 ce q9 H locs hE9 hG h9 hv9 hcl9 => ?_) (fun rc Gc H locs hca hG => ?_)
  · rcases hE9 with ⟨rfl, hth⟩ | ⟨rfl, hth⟩
    · refine vx_catch S.2.2.2.1 [] (⟨0, 21, 24, 19⟩ : ExceptionTableEntry) [(⟨0, 21, 28, 21⟩ : ExceptionTableEntry)] (htab.trans rfl) (fun z hz => nomatch hz) rfl (by decide) (S.2.2.2.2 _ tw_246) (va_Nw.use rfl (hE.2 _ nw_24)) h9 hv9 hcl9 ?_
      refine W.eq (g2 := F0 m 24 ls [.ref q9]) rfl ?_
      refine lv_astore (lv' := [(6, .ref q9), (0, .ref x), (1, .int n), (2, .int c0), (3, .int e0), (4, .int v), (5, .ref o)]) hx hb d_la_care_24 hl (by decide) rfl (fun ls hl => ?_)
      refine lv_iconst (v := 1) hx hb d_la_care_26 (by decide) ?_
      refine W.widen (k := 3) (n := 18) (Nat.le_of_ble_eq_true rfl) (Nat.le_of_ble_eq_true rfl) ?_
      exact (W.iret hx hb hr (fun t9 ht9 hW9 => ⟨⟨_, _, rfl, ⟨ov, ho, kX.rf, Or.inl ⟨rfl, hth, hcl⟩⟩, by rw [ht9]; exact hG.1, hG.2.1⟩, hG.2.2.1.F ht9⟩) hG.2.2.1.2.2 d_la_care_27)
    · refine vx_catch S.2.2.2.1 [(⟨0, 21, 24, 19⟩ : ExceptionTableEntry)] (⟨0, 21, 28, 21⟩ : ExceptionTableEntry) [] (htab.trans rfl) (fun z hz => Or.inr (by rcases List.mem_singleton.mp hz with rfl; exact ⟨by decide, _, S.2.2.2.2 _ tw_246, hN⟩)) rfl (by decide) (S.2.2.2.2 _ tw_247) (va_Nw.use rfl (hE.2 _ nw_25)) h9 hv9 hcl9 ?_
      refine W.eq (g2 := F0 m 28 ls [.ref q9]) rfl ?_
      refine lv_astore (lv' := [(6, .ref q9), (0, .ref x), (1, .int n), (2, .int c0), (3, .int e0), (4, .int v), (5, .ref o)]) hx hb d_la_care_28 hl (by decide) rfl (fun ls hl => ?_)
      refine lv_iconst (v := 2) hx hb d_la_care_30 (by decide) ?_
      refine W.widen (k := 3) (n := 18) (Nat.le_of_ble_eq_true rfl) (Nat.le_of_ble_eq_true rfl) ?_
      exact (W.iret hx hb hr (fun t9 ht9 hW9 => ⟨⟨_, _, rfl, ⟨ov, ho, kX.rf, Or.inr (Or.inl ⟨rfl, hth, hcl⟩)⟩, by rw [ht9]; exact hG.1, hG.2.1⟩, hG.2.2.1.F ht9⟩) hG.2.2.1.2.2 d_la_care_31)
  · obtain ⟨j, k, q, h1, h2, h3, h4, h5, h6, h7⟩ := hca
    obtain ⟨hk, hp⟩ : kX noC G Gc ∧ ∀ G9 : gh, kX (fun e => ¬ oE e) Gc G9 → (∃ j k q, okP pt pd n j ∧ k < C ∧ q < E ∧ c0 = nI k ∧ e0 = nI q ∧ (v = -1 ∨ v = 0 ∨ v = 1) ∧ ((carC (pca (pd j)) (pva (pd j)) (plC (nI k) (nI q)) = v ∧ rc = 0 ∧ clQ Z G9 x C E M D fk tp pt pd) ∨ (¬ carC (pca (pd j)) (pva (pd j)) (plC (nI k) (nI q)) = v ∧ rc = 1 ∧ clQ Z G9 x C E M D fk tp pt (va_up pd j (qcare (pd j) (plC (nI k) (nI q)) v))))) := by
      rcases h7 with ⟨h7, h8, rfl⟩ | ⟨h7, h8, rfl⟩
      · exact ⟨kX.rf, fun G9 h9 => ⟨j, k, q, h1, h2, h3, h4, h5, h6, Or.inl ⟨h7, h8, clQ_ko hc h9⟩⟩⟩
      · exact ⟨(clP_pat hc _).2, fun G9 h9 => ⟨j, k, q, h1, h2, h3, h4, h5, h6, Or.inr ⟨h7, h8, clQ_ko (clP_pat hc _).1 h9⟩⟩⟩
    have fo : Gc o = some (.inl (Z.2 0, 1, .inr (.inl ov))) := hk _ _ ho (Or.inr ⟨_, _, rfl⟩)
    refine lv_if_eq (tgt := 19) hx hb d_la_care_12 (by decide) (fun c12 => ?_) (fun c12 => ?_)
    · refine lv_lconst (v := 0) hx hb d_la_care_19 (by decide) ?_
      refine g_last S hE.1 hG fo 0 rfl (vp_in_nI (by omega) (by omega)) d_la_care_20 (fun H locs hG => ?_)
      rw [nI_clamp (show 0 < 2 ^ 31 by omega)] at hG
      have hG : gS (gA G s.heap.size) s.heap Z.1 cls (gup Gc o (.inl (Z.2 0, 1, .inr (.inl (vp_updL ov 0 0))))) H locs := hG
      generalize eG20 : gup Gc o (.inl (Z.2 0, 1, .inr (.inl (vp_updL ov 0 0)))) = G20 at hG
      have f20 : G20 o = some (.inl (Z.2 0, 1, .inr (.inl (vp_updL ov 0 0)))) := by rw [← eG20]; exact gup_self _ _ _
      have hk20 : kX mE G G20 := by rw [← eG20]; exact (hk.mono (fun _ h => Or.inl h)).tr (kX_out fo).1
      have hp20 := hp G20 (by rw [← eG20]; exact (kX_out fo).2)
      refine lv_goto (tgt := 32) hx hb d_la_care_21 (by decide) ?_
      refine lv_iconst (v := 0) hx hb d_la_care_32 (by decide) ?_
      refine W.widen (k := 3) (n := 18) (Nat.le_of_ble_eq_true rfl) (Nat.le_of_ble_eq_true rfl) ?_
      exact (W.iret hx hb hr (fun t9 ht9 hW9 => ⟨⟨_, _, rfl, ⟨_, f20, hk20, Or.inr (Or.inr (⟨rfl, rc, zl0 c12, hp20⟩))⟩, by rw [ht9]; exact hG.1, hG.2.1⟩, hG.2.2.1.F ht9⟩) hG.2.2.1.2.2 d_la_care_33)
    · refine lv_lconst (v := 1) hx hb d_la_care_15 (by decide) ?_
      refine lv_goto (tgt := 20) hx hb d_la_care_16 (by decide) ?_
      refine g_last S hE.1 hG fo 0 rfl (vp_in_nI (by omega) (by omega)) d_la_care_20 (fun H locs hG => ?_)
      rw [nI_clamp (show 0 < 2 ^ 31 by omega)] at hG
      have hG : gS (gA G s.heap.size) s.heap Z.1 cls (gup Gc o (.inl (Z.2 0, 1, .inr (.inl (vp_updL ov 0 1))))) H locs := hG
      generalize eG20 : gup Gc o (.inl (Z.2 0, 1, .inr (.inl (vp_updL ov 0 1)))) = G20 at hG
      have f20 : G20 o = some (.inl (Z.2 0, 1, .inr (.inl (vp_updL ov 0 1)))) := by rw [← eG20]; exact gup_self _ _ _
      have hk20 : kX mE G G20 := by rw [← eG20]; exact (hk.mono (fun _ h => Or.inl h)).tr (kX_out fo).1
      have hp20 := hp G20 (by rw [← eG20]; exact (kX_out fo).2)
      refine lv_goto (tgt := 32) hx hb d_la_care_21 (by decide) ?_
      refine lv_iconst (v := 0) hx hb d_la_care_32 (by decide) ?_
      refine W.widen (k := 3) (n := 18) (Nat.le_of_ble_eq_true rfl) (Nat.le_of_ble_eq_true rfl) ?_
      exact (W.iret hx hb hr (fun t9 ht9 hW9 => ⟨⟨_, _, rfl, ⟨_, f20, hk20, Or.inr (Or.inr (⟨rfl, rc, zl1 c12, hp20⟩))⟩, by rw [ht9]; exact hG.1, hG.2.1⟩, hG.2.2.1.F ht9⟩) hG.2.2.1.2.2 d_la_care_33)

set_option maxHeartbeats 600000 in
set_option maxRecDepth 100000 in
theorem c_la_machine (l : Launch) (hl9 : l.stackTraces = false) (Z : gZ) (G : gh) (sz : Nat) (x o : Nat) {C E M D : Nat} {fk tp : Int32} {pt : Nat → Option Nat} {pd : Nat → Pat} {ov : Nat → Int64} (hcl : clQ Z G x C E M D fk tp pt pd) (ho : G o = some (.inl (Z.2 0, 1, .inr (.inl ov)))) (hbd : C ≤ 4 ∧ E ≤ 8 ∧ 1 ≤ D ∧ D ≤ 16 ∧ M ≤ 24) (k0 b : Int32) : Met l y_la_machine (wd_la_machine :: Gall) ({ frames := 7, cells := 1, slots := 6, locals := 112 }) (va_Pc [.ref x, .int k0, .int b, .ref o] (gPy Z G sz)) (va_Qi (fun (r : Int32) (G9 : gh) => ∃ ov9, G9 o = some (.inl (Z.2 0, 1, .inr (.inl ov9))) ∧ kX mE G G9 ∧ ((r = 1 ∧ (¬ ∃ k, k < D ∧ k0 = nI k) ∧ clQ Z G9 x C E M D fk tp pt pd) ∨ (r = 2 ∧ (k0 = nI (D - 1) ∧ b = 0) ∧ clQ Z G9 x C E M D fk tp pt pd) ∨ (r = 0 ∧ ∃ r9 : Int32, ov9 0 = zl r9 ∧ (∃ k, k < D ∧ k0 = nI k ∧ ¬ (k = D - 1 ∧ b = 0) ∧ ((tapC tp (nI k) = b ∧ r9 = 0 ∧ clQ Z G9 x C E M D fk tp pt pd) ∨ (¬ tapC tp (nI k) = b ∧ r9 = 1 ∧ clQ Z G9 x C E M D fk (tp ^^^ ((1 : Int32) <<< (nI k &&& 31))) pt (fgN pt pd 24))))))) (gW Z G sz) (gA G sz)) 1 6 (gA G sz) := by
  refine va_MetW (cc := b_la_machine) (maxL := 5) (ret := (some .int)) (hh := hh_la_machine) (by decide) rfl ?_
  intro p e s m args below meth c s₁ B hml hv
  obtain ⟨rfl, hN, hsz, ⟨hG, hE⟩, hX⟩ := hv
  subst hsz
  have hx := B.exec
  have hb := B.bytes
  have hr := B.returns
  have hlocks := B.notSynchronized
  have S : CallFix p m c b_la_machine 5 s _ Gall "PackSeedsLaw" := ⟨hx, hb, hml, findClass_of_methodNamed B.named, fun w hw => atoms_spec (ws := wd_la_machine :: Gall) B.pre w (List.mem_cons_of_mem _ hw)⟩
  have htab : c.exceptionTable.toList = tableOf hh_la_machine := vx_table (x := y_la_machine) B (atoms_spec (ws := wd_la_machine :: Gall) B.pre _ List.mem_cons_self)
  have hG : gS (gA G s.heap.size) s.heap Z.1 cls G s.heap [] := gS.start hG
  obtain ⟨hC, hE8, hD0, hD, hM⟩ := hbd
  obtain ⟨sh, ma, ro, pa, rw, hc⟩ := id hcl
  obtain ⟨fx, fs, fm, fro, fpa, hpt, hinj⟩ := id hc
  have hl := lv_entry ([.ref x, .int k0, .int b, .ref o]) (n := 5) (Nat.le_of_ble_eq_true rfl)
  rw [lg_entry_eq]
  generalize (lg_sl ([.ref x, .int k0, .int b, .ref o]) ++ List.replicate (5 - (lg_sl ([.ref x, .int k0, .int b, .ref o])).length) Slot.unset).toArray = ls at hl ⊢
  have hl : lv_has ls 5 [(0, .ref x), (1, .int k0), (2, .int b), (3, .ref o)] := hl
  refine lv_aload_n hx hb d_la_machine_0 rfl (lv_at hl 3 rfl) ?_
  refine lv_iconst (v := nI 0) hx hb d_la_machine_1 (by decide) ?_
  refine lv_aload_n hx hb d_la_machine_2 rfl (lv_at hl 0 rfl) ?_
  refine lv_iload_n hx hb d_la_machine_3 rfl (lv_at hl 1 rfl) ?_
  refine lv_iload_n hx hb d_la_machine_4 rfl (lv_at hl 2 rfl) ?_
  refine g_hwi hG (g_xrunV (As := [.int k0, .int b]) (rest := [.int (nI 0), .ref o]) S lk_la_27 k_ps_machine (c_ps_machine l hl9 Z G s.heap.size x fx fm hD0 hD fpa hpt hinj k0 b) ⟨rfl, rfl⟩ ⟨(Nat.le_of_ble_eq_true rfl), (Nat.le_of_ble_eq_true rfl)⟩ (gPxV hG hE hX fx rfl) rfl hl.1 rfl (Nat.le_of_ble_eq_true rfl) d_la_machine_5 ⟨(Nat.le_of_ble_eq_true rfl), (Nat.le_of_ble_eq_true rfl)⟩) (fun E9 ce q9 H locs hE9 hG h9 hv9 hcl9 => ?_) (fun rc Gc H locs hca hG => ?_)
  · rcases hE9 with ⟨rfl, hth⟩ | ⟨rfl, hth⟩
    · refine vx_catch S.2.2.2.1 [] (⟨0, 17, 20, 19⟩ : ExceptionTableEntry) [(⟨0, 17, 24, 21⟩ : ExceptionTableEntry)] (htab.trans rfl) (fun z hz => nomatch hz) rfl (by decide) (S.2.2.2.2 _ tw_246) (va_Nw.use rfl (hE.2 _ nw_24)) h9 hv9 hcl9 ?_
      refine W.eq (g2 := F0 m 20 ls [.ref q9]) rfl ?_
      refine lv_astore (lv' := [(4, .ref q9), (0, .ref x), (1, .int k0), (2, .int b), (3, .ref o)]) hx hb d_la_machine_20 hl (by decide) rfl (fun ls hl => ?_)
      refine lv_iconst (v := 1) hx hb d_la_machine_22 (by decide) ?_
      refine W.widen (k := 1) (n := 6) (Nat.le_of_ble_eq_true rfl) (Nat.le_of_ble_eq_true rfl) ?_
      exact (W.iret hx hb hr (fun t9 ht9 hW9 => ⟨⟨_, _, rfl, ⟨ov, ho, kX.rf, Or.inl ⟨rfl, hth, hcl⟩⟩, by rw [ht9]; exact hG.1, hG.2.1⟩, hG.2.2.1.F ht9⟩) hG.2.2.1.2.2 d_la_machine_23)
    · refine vx_catch S.2.2.2.1 [(⟨0, 17, 20, 19⟩ : ExceptionTableEntry)] (⟨0, 17, 24, 21⟩ : ExceptionTableEntry) [] (htab.trans rfl) (fun z hz => Or.inr (by rcases List.mem_singleton.mp hz with rfl; exact ⟨by decide, _, S.2.2.2.2 _ tw_246, hN⟩)) rfl (by decide) (S.2.2.2.2 _ tw_247) (va_Nw.use rfl (hE.2 _ nw_25)) h9 hv9 hcl9 ?_
      refine W.eq (g2 := F0 m 24 ls [.ref q9]) rfl ?_
      refine lv_astore (lv' := [(4, .ref q9), (0, .ref x), (1, .int k0), (2, .int b), (3, .ref o)]) hx hb d_la_machine_24 hl (by decide) rfl (fun ls hl => ?_)
      refine lv_iconst (v := 2) hx hb d_la_machine_26 (by decide) ?_
      refine W.widen (k := 1) (n := 6) (Nat.le_of_ble_eq_true rfl) (Nat.le_of_ble_eq_true rfl) ?_
      exact (W.iret hx hb hr (fun t9 ht9 hW9 => ⟨⟨_, _, rfl, ⟨ov, ho, kX.rf, Or.inr (Or.inl ⟨rfl, hth, hcl⟩)⟩, by rw [ht9]; exact hG.1, hG.2.1⟩, hG.2.2.1.F ht9⟩) hG.2.2.1.2.2 d_la_machine_27)
  · obtain ⟨k, h1, h2, h3, h7⟩ := hca
    obtain ⟨hk, hp⟩ : kX noC G Gc ∧ ∀ G9 : gh, kX (fun e => ¬ oE e) Gc G9 → (∃ k, k < D ∧ k0 = nI k ∧ ¬ (k = D - 1 ∧ b = 0) ∧ ((tapC tp (nI k) = b ∧ rc = 0 ∧ clQ Z G9 x C E M D fk tp pt pd) ∨ (¬ tapC tp (nI k) = b ∧ rc = 1 ∧ clQ Z G9 x C E M D fk (tp ^^^ ((1 : Int32) <<< (nI k &&& 31))) pt (fgN pt pd 24)))) := by
      rcases h7 with ⟨h7, h8, rfl⟩ | ⟨h7, h8, rfl⟩
      · exact ⟨kX.rf, fun G9 h9 => ⟨k, h1, h2, h3, Or.inl ⟨h7, h8, clQ_ko hc h9⟩⟩⟩
      · obtain ⟨z1, z2⟩ := clP_mach hc D (tp ^^^ ((1 : Int32) <<< (nI k &&& 31)))
        exact ⟨z2.tr (clP_pat z1 _).2, fun G9 h9 => ⟨k, h1, h2, h3, Or.inr ⟨h7, h8, clQ_ko (clP_pat z1 _).1 h9⟩⟩⟩
    have fo : Gc o = some (.inl (Z.2 0, 1, .inr (.inl ov))) := hk _ _ ho (Or.inr ⟨_, _, rfl⟩)
    refine lv_if_eq (tgt := 15) hx hb d_la_machine_8 (by decide) (fun c8 => ?_) (fun c8 => ?_)
    · refine lv_lconst (v := 0) hx hb d_la_machine_15 (by decide) ?_
      refine g_last S hE.1 hG fo 0 rfl (vp_in_nI (by omega) (by omega)) d_la_machine_16 (fun H locs hG => ?_)
      rw [nI_clamp (show 0 < 2 ^ 31 by omega)] at hG
      have hG : gS (gA G s.heap.size) s.heap Z.1 cls (gup Gc o (.inl (Z.2 0, 1, .inr (.inl (vp_updL ov 0 0))))) H locs := hG
      generalize eG16 : gup Gc o (.inl (Z.2 0, 1, .inr (.inl (vp_updL ov 0 0)))) = G16 at hG
      have f16 : G16 o = some (.inl (Z.2 0, 1, .inr (.inl (vp_updL ov 0 0)))) := by rw [← eG16]; exact gup_self _ _ _
      have hk16 : kX mE G G16 := by rw [← eG16]; exact (hk.mono (fun _ h => Or.inl h)).tr (kX_out fo).1
      have hp16 := hp G16 (by rw [← eG16]; exact (kX_out fo).2)
      refine lv_goto (tgt := 28) hx hb d_la_machine_17 (by decide) ?_
      refine lv_iconst (v := 0) hx hb d_la_machine_28 (by decide) ?_
      refine W.widen (k := 1) (n := 6) (Nat.le_of_ble_eq_true rfl) (Nat.le_of_ble_eq_true rfl) ?_
      exact (W.iret hx hb hr (fun t9 ht9 hW9 => ⟨⟨_, _, rfl, ⟨_, f16, hk16, Or.inr (Or.inr (⟨rfl, rc, zl0 c8, hp16⟩))⟩, by rw [ht9]; exact hG.1, hG.2.1⟩, hG.2.2.1.F ht9⟩) hG.2.2.1.2.2 d_la_machine_29)
    · refine lv_lconst (v := 1) hx hb d_la_machine_11 (by decide) ?_
      refine lv_goto (tgt := 16) hx hb d_la_machine_12 (by decide) ?_
      refine g_last S hE.1 hG fo 0 rfl (vp_in_nI (by omega) (by omega)) d_la_machine_16 (fun H locs hG => ?_)
      rw [nI_clamp (show 0 < 2 ^ 31 by omega)] at hG
      have hG : gS (gA G s.heap.size) s.heap Z.1 cls (gup Gc o (.inl (Z.2 0, 1, .inr (.inl (vp_updL ov 0 1))))) H locs := hG
      generalize eG16 : gup Gc o (.inl (Z.2 0, 1, .inr (.inl (vp_updL ov 0 1)))) = G16 at hG
      have f16 : G16 o = some (.inl (Z.2 0, 1, .inr (.inl (vp_updL ov 0 1)))) := by rw [← eG16]; exact gup_self _ _ _
      have hk16 : kX mE G G16 := by rw [← eG16]; exact (hk.mono (fun _ h => Or.inl h)).tr (kX_out fo).1
      have hp16 := hp G16 (by rw [← eG16]; exact (kX_out fo).2)
      refine lv_goto (tgt := 28) hx hb d_la_machine_17 (by decide) ?_
      refine lv_iconst (v := 0) hx hb d_la_machine_28 (by decide) ?_
      refine W.widen (k := 1) (n := 6) (Nat.le_of_ble_eq_true rfl) (Nat.le_of_ble_eq_true rfl) ?_
      exact (W.iret hx hb hr (fun t9 ht9 hW9 => ⟨⟨_, _, rfl, ⟨_, f16, hk16, Or.inr (Or.inr (⟨rfl, rc, zl1 c8, hp16⟩))⟩, by rw [ht9]; exact hG.1, hG.2.1⟩, hG.2.2.1.F ht9⟩) hG.2.2.1.2.2 d_la_machine_29)

set_option maxHeartbeats 600000 in
set_option maxRecDepth 100000 in
theorem c_la_degree (l : Launch) (hl9 : l.stackTraces = false) (Z : gZ) (G : gh) (sz : Nat) (x o : Nat) {C E M D : Nat} {fk tp : Int32} {pt : Nat → Option Nat} {pd : Nat → Pat} {ov : Nat → Int64} (hcl : clQ Z G x C E M D fk tp pt pd) (ho : G o = some (.inl (Z.2 0, 1, .inr (.inl ov)))) (hbd : C ≤ 4 ∧ E ≤ 8 ∧ 1 ≤ D ∧ D ≤ 16 ∧ M ≤ 24) (d : Int32) : Met l y_la_degree (wd_la_degree :: Gall) ({ frames := 7, cells := 1, slots := 6, locals := 111 }) (va_Pc [.ref x, .int d] (gPy Z G sz)) (va_Qi (fun (r : Int32) (G9 : gh) => kX noC G G9 ∧ ((r = 1 ∧ (¬ ∃ N, 1 ≤ N ∧ N ≤ 16 ∧ d = nI N) ∧ clQ Z G9 x C E M D fk tp pt pd) ∨ (r = 0 ∧ ∃ N, 1 ≤ N ∧ N ≤ 16 ∧ d = nI N ∧ clQ Z G9 x C E M N fk ((1 : Int32) <<< ((d - 1) &&& 31)) pt (fgN pt pd 24)))) (gW Z G sz) (gA G sz)) 1 6 (gA G sz) := by
  refine va_MetW (cc := b_la_degree) (maxL := 3) (ret := (some .int)) (hh := hh_la_degree) (by decide) rfl ?_
  intro p e s m args below meth c s₁ B hml hv
  obtain ⟨rfl, hN, hsz, ⟨hG, hE⟩, hX⟩ := hv
  subst hsz
  have hx := B.exec
  have hb := B.bytes
  have hr := B.returns
  have hlocks := B.notSynchronized
  have S : CallFix p m c b_la_degree 3 s _ Gall "PackSeedsLaw" := ⟨hx, hb, hml, findClass_of_methodNamed B.named, fun w hw => atoms_spec (ws := wd_la_degree :: Gall) B.pre w (List.mem_cons_of_mem _ hw)⟩
  have htab : c.exceptionTable.toList = tableOf hh_la_degree := vx_table (x := y_la_degree) B (atoms_spec (ws := wd_la_degree :: Gall) B.pre _ List.mem_cons_self)
  have hG : gS (gA G s.heap.size) s.heap Z.1 cls G s.heap [] := gS.start hG
  obtain ⟨hC, hE8, hD0, hD, hM⟩ := hbd
  obtain ⟨sh, ma, ro, pa, rw, hc⟩ := id hcl
  obtain ⟨fx, fs, fm, fro, fpa, hpt, hinj⟩ := id hc
  have hl := lv_entry ([.ref x, .int d]) (n := 3) (Nat.le_of_ble_eq_true rfl)
  rw [lg_entry_eq]
  generalize (lg_sl ([.ref x, .int d]) ++ List.replicate (3 - (lg_sl ([.ref x, .int d])).length) Slot.unset).toArray = ls at hl ⊢
  have hl : lv_has ls 3 [(0, .ref x), (1, .int d)] := hl
  refine lv_aload_n hx hb d_la_degree_0 rfl (lv_at hl 0 rfl) ?_
  refine lv_iload_n hx hb d_la_degree_1 rfl (lv_at hl 1 rfl) ?_
  refine g_hwv hG (g_xrunV (As := [.int d]) (rest := []) S lk_la_23 k_ps_degree (c_ps_degree l hl9 Z G s.heap.size x fx fm fpa hpt hinj d) ⟨rfl, rfl⟩ ⟨(Nat.le_of_ble_eq_true rfl), (Nat.le_of_ble_eq_true rfl)⟩ (gPxV hG hE hX fx rfl) rfl hl.1 rfl (Nat.le_of_ble_eq_true rfl) d_la_degree_2 ⟨(Nat.le_of_ble_eq_true rfl), (Nat.le_of_ble_eq_true rfl)⟩) (fun E9 ce q9 H locs hE9 hG h9 hv9 hcl9 => ?_) (fun Gc H locs hca hG => ?_)
  · rcases hE9 with ⟨rfl, hth⟩
    refine vx_catch S.2.2.2.1 [] (⟨0, 5, 8, 21⟩ : ExceptionTableEntry) [] (htab.trans rfl) (fun z hz => nomatch hz) rfl (by decide) (S.2.2.2.2 _ tw_247) (va_Nw.use rfl (hE.2 _ nw_25)) h9 hv9 hcl9 ?_
    refine W.eq (g2 := F0 m 8 ls [.ref q9]) rfl ?_
    refine lv_astore_n (lv' := [(2, .ref q9), (0, .ref x), (1, .int d)]) hx hb d_la_degree_8 rfl hl (by decide) rfl (fun ls hl => ?_)
    refine lv_iconst (v := 1) hx hb d_la_degree_9 (by decide) ?_
    refine W.widen (k := 1) (n := 6) (Nat.le_of_ble_eq_true rfl) (Nat.le_of_ble_eq_true rfl) ?_
    exact (W.iret hx hb hr (fun t9 ht9 hW9 => ⟨⟨_, _, rfl, ⟨kX.rf, Or.inl ⟨rfl, hth, hcl⟩⟩, by rw [ht9]; exact hG.1, hG.2.1⟩, hG.2.2.1.F ht9⟩) hG.2.2.1.2.2 d_la_degree_10)
  · obtain ⟨hk, hp⟩ : kX noC G Gc ∧ ∀ G9 : gh, kX (fun e => ¬ oE e) Gc G9 → (∃ N, 1 ≤ N ∧ N ≤ 16 ∧ d = nI N ∧ clQ Z G9 x C E M N fk ((1 : Int32) <<< ((d - 1) &&& 31)) pt (fgN pt pd 24)) := by
      obtain ⟨⟨N, h1, h2, h3⟩, hg⟩ := hca
      subst hg
      subst h3
      obtain ⟨z1, z2⟩ := clP_mach hc N ((1 : Int32) <<< ((nI N - 1) &&& 31))
      exact ⟨z2.tr (clP_pat z1 (fgN pt pd 24)).2, fun G9 h9 => ⟨N, h1, h2, rfl, clQ_ko (clP_pat z1 (fgN pt pd 24)).1 h9⟩⟩
    refine lv_goto (tgt := 11) hx hb d_la_degree_5 (by decide) ?_
    refine lv_iconst (v := 0) hx hb d_la_degree_11 (by decide) ?_
    refine W.widen (k := 1) (n := 6) (Nat.le_of_ble_eq_true rfl) (Nat.le_of_ble_eq_true rfl) ?_
    exact (W.iret hx hb hr (fun t9 ht9 hW9 => ⟨⟨_, _, rfl, ⟨hk, Or.inr (⟨rfl, hp _ kX.rf⟩)⟩, by rw [ht9]; exact hG.1, hG.2.1⟩, hG.2.2.1.F ht9⟩) hG.2.2.1.2.2 d_la_degree_12)
