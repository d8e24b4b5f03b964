set_option maxHeartbeats 4000000 in
set_option maxRecDepth 100000 in
theorem c_ps_primitive (l : Launch) (Z : gZ) (G : gh) (x : Nat) {sh ma pa : Nat} {mad fk : Int32} (hx0 : G x = some (.inr (0, [.ref sh, .ref ma, .ref pa, .int mad, .int fk]))) {ro D : Nat} {tp : Int32} (hm : G ma = some (.inr (2, [.ref sh, .ref ro, .int (nI D), .int tp]))) (hD0 : 1 ≤ D) (hD : D ≤ 16) : Met l y_ps_primitive (wd_ps_primitive :: Gall) ({ frames := 3, cells := 0, slots := 0, locals := 65 }) (va_Pc [.ref x] (gPure Z G)) (vp_Si (fun r : Int32 => (r = 1 ∧ lcC (nI D) tp (2 ^ D - 1)) ∨ (r = 0 ∧ ¬ lcC (nI D) tp (2 ^ D - 1)))) 0 0 (fun _ => False) := by
  refine Met.ofW (cc := b_ps_primitive) (maxL := 1) (ret := (some .boolean)) (by decide) rfl ?_
  intro p e s m args below meth c s₁ B hml hv
  obtain ⟨rfl, hG, hE⟩ := hv
  have hx := B.exec
  have hb := B.bytes
  have hr := B.returns
  have hlocks := B.notSynchronized
  have S : CallFix p m c b_ps_primitive 1 s _ Gall "PackSeeds" := ⟨hx, hb, hml, findClass_of_methodNamed B.named, fun w hw => atoms_spec (ws := wd_ps_primitive :: Gall) B.pre w (List.mem_cons_of_mem _ hw)⟩
  have hl := lv_entry ([.ref x]) (n := 1) (Nat.le_of_ble_eq_true rfl)
  rw [lg_entry_eq]
  generalize (lg_sl ([.ref x]) ++ List.replicate (1 - (lg_sl ([.ref x])).length) Slot.unset).toArray = ls at hl ⊢
  have hl : lv_has ls 1 [(0, .ref x)] := hl
  refine lv_aload_n hx hb d_ps_primitive_0 rfl (lv_at hl 0 rfl) ?_
  refine g_get S hE.1 hG hx0 rfl in_ps 1 (by decide) tw_69 (fun _ h9 => h9) rfl d_ps_primitive_1 ?_
  refine g_reti (g_runVN (As := []) (rest := []) S hE lk_ps_145 k_ma_hasLongestCycle (c_ma_hasLongestCycle l Z G ma hm hD0 hD) ⟨rfl, rfl⟩ ⟨Nat.le_of_ble_eq_true rfl, Nat.le_of_ble_eq_true rfl⟩ (gPreV hG hE hm rfl) rfl hl.1 rfl (Nat.le_of_ble_eq_true rfl) d_ps_primitive_4 ⟨Nat.le_of_ble_eq_true rfl, Nat.le_of_ble_eq_true rfl⟩) (fun r4 h4 => ?_)
  exact W.zret hx hb hr (by rcases h4 with h | h <;> rw [h.1] <;> rfl) (fun t9 ht9 hW9 => ⟨_, rfl, h4, ht9⟩) (fun _ h => nomatch h) d_ps_primitive_7

set_option maxHeartbeats 4000000 in
set_option maxRecDepth 100000 in
theorem c_ps_seed (l : Launch) (hl9 : l.stackTraces = false) (Z : gZ) (G : gh) (sz : Nat) (x : Nat) {sh ma pa : Nat} {mad fk : Int32} (hx0 : G x = some (.inr (0, [.ref sh, .ref ma, .ref pa, .int mad, .int fk]))) {C E : Nat} (hs : G sh = some (.inr (1, [.int (nI C), .int (nI E)]))) (hC : C ≤ 4) (hE8 : E ≤ 8) {ro D : Nat} {tp : Int32} (hm : G ma = some (.inr (2, [.ref sh, .ref ro, .int (nI D), .int tp]))) (hD0 : 1 ≤ D) (hD : D ≤ 16) {rw : Nat → Int64} (hro : G ro = some (.inl (Z.2 0, 48, .inr (.inl rw)))) {pt : Nat → Option Nat} {pd : Nat → Pat} (hpa : G pa = some (.inl (Z.2 3, 24, .inr (.inr (.inr (.inr pt)))))) (hpt : ∀ i a, i < 24 → pt i = some a → G a = some (.inr (3, pfs (pd i)))) (hinj : ptInj pt) (n : Int32) : vx_Met l y_ps_seed (wd_ps_seed :: Gall) ({ frames := 7, cells := 1, slots := 6, locals := 112 }) (va_Pc [.ref x, .int n] (gPx Z G sz)) (va_Qi (fun (r : Int32) (G9 : gh) => ∃ (j : Nat) (f : Nat → Int64), okP pt pd n j ∧ G9 = patG (gup G ro (.inl (Z.2 0, 48, .inr (.inl f)))) pt (va_up pd j (qsd (pd j) (lsC (nI D) tp C E D (pca (pd j)) (pva (pd j))))) ∧ r = if lsC (nI D) tp C E D (pca (pd j)) (pva (pd j)) = -1 then 1 else 0) (gW Z G sz) (gA G sz)) (gXC (fun X9 : String => X9 = "java/lang/IndexOutOfBoundsException" ∧ (∀ j, ¬ okP pt pd n j)) sz) 1 6 (gA G sz) := by
  refine vx_ofW (cc := b_ps_seed) (maxL := 3) (ret := (some .int)) (by decide) rfl ?_
  intro p e s m args below meth c s₁ B hml htab hv
  obtain ⟨rfl, hsz, ⟨hG, hE⟩, hX⟩ := hv
  subst hsz
  have hx := B.exec
  have hb := B.bytes
  have hr := B.returns
  have hlocks := B.notSynchronized
  have S : CallFix p m c b_ps_seed 3 s _ Gall "PackSeeds" := ⟨hx, hb, hml, findClass_of_methodNamed B.named, fun w hw => atoms_spec (ws := wd_ps_seed :: Gall) B.pre w (List.mem_cons_of_mem _ hw)⟩
  have hG : gS (gA G s.heap.size) s.heap Z.1 cls G s.heap [] := gS.start hG
  have hl := lv_entry ([.ref x, .int n]) (n := 3) (Nat.le_of_ble_eq_true rfl)
  rw [lg_entry_eq]
  generalize (lg_sl ([.ref x, .int n]) ++ List.replicate (3 - (lg_sl ([.ref x, .int n])).length) Slot.unset).toArray = ls at hl ⊢
  have hl : lv_has ls 3 [(0, .ref x), (1, .int n)] := hl
  refine lv_aload_n hx hb d_ps_seed_0 rfl (lv_at hl 0 rfl) ?_
  refine lv_iload_n hx hb d_ps_seed_1 rfl (lv_at hl 1 rfl) ?_
  refine g_xretq (Nat.le_refl _) (g_xrunV (As := [.int n]) (rest := []) S lk_ps_48 k_ps_present (c_ps_present l hl9 Z G s.heap.size x hx0 hpa hpt n) ⟨rfl, rfl⟩ ⟨(Nat.le_of_ble_eq_true rfl), (Nat.le_of_ble_eq_true rfl)⟩ (gPxV hG hE hX hx0 rfl) rfl hl.1 rfl (Nat.le_of_ble_eq_true rfl) d_ps_seed_2 ⟨(Nat.le_of_ble_eq_true rfl), (Nat.le_of_ble_eq_true rfl)⟩) (g_out htab hlocks (fun E h => h) (fun _ h => nomatch h) (Nat.le_of_ble_eq_true rfl) (Nat.le_of_ble_eq_true rfl)) (fun r2 h2 => ?_)
  obtain ⟨a2, j, hr2, hj, hnj, hpj, hgj⟩ := h2
  subst hr2
  refine lv_astore_n (lv' := [(2, .ref a2), (0, .ref x), (1, .int n)]) hx hb d_ps_seed_5 rfl hl (by decide) rfl (fun ls hl => ?_)
  refine lv_aload_n hx hb d_ps_seed_6 rfl (lv_at hl 0 rfl) ?_
  refine lv_aload_n hx hb d_ps_seed_7 rfl (lv_at hl 1 rfl) ?_
  refine g_get S hE.1 hG.1 hx0 rfl in_ps 1 (by decide) tw_69 (fun _ h9 => h9) rfl d_ps_seed_8 ?_
  refine lv_aload_n hx hb d_ps_seed_11 rfl (lv_at hl 0 rfl) ?_
  refine g_getN S hE.1 hG.1 (hpt j a2 hj hpj) rfl in_pt 0 (by decide) (hE.2 _ nw_18) (fun _ h9 => h9) rfl d_ps_seed_12 ?_
  refine lv_aload_n hx hb d_ps_seed_15 rfl (lv_at hl 0 rfl) ?_
  refine g_getN S hE.1 hG.1 (hpt j a2 hj hpj) rfl in_pt 1 (by decide) (hE.2 _ nw_19) (fun _ h9 => h9) rfl d_ps_seed_16 ?_
  refine g_wi hG (g_runVN (As := [.int (pca (pd j)), .int (pva (pd j))]) (rest := [.ref a2]) S hE lk_ps_108 k_ma_leastSeed (c_ma_leastSeed l Z G s.heap.size ma hm hro hs hC hE8 hD (pca (pd j)) (pva (pd j))) ⟨rfl, rfl⟩ ⟨(Nat.le_of_ble_eq_true rfl), (Nat.le_of_ble_eq_true rfl)⟩ (gPwV hG.1 hE hm rfl) rfl hl.1 rfl (Nat.le_of_ble_eq_true rfl) d_ps_seed_19 ⟨(Nat.le_of_ble_eq_true rfl), (Nat.le_of_ble_eq_true rfl)⟩) (fun r19 G19 H locs h19 hG => ?_)
  obtain ⟨f, h19G, h19r⟩ := h19
  have hpt9 : ∀ i a, i < 24 → pt i = some a → G19 a = some (.inr (3, pfs (pd i))) := fun i a hi hp => by rw [h19G]; exact gup_keep hro (hpt i a hi hp) (by simp)
  refine g_putN S hE.1 hG (hpt9 j a2 hj hpj) rfl in_pt ty_pt tyok_pt nm_pt 4 (by decide) (hE.2 _ nw_22) (fun _ h9 => h9) rfl (ty := .int) (by decide +kernel) rfl rfl (Nat.le_of_ble_eq_true rfl) d_ps_seed_22 (fun H locs hG => ?_)
  have hG : gS (gA G s.heap.size) s.heap Z.1 cls (gup G19 a2 (.inr (3, [.int (pca (pd j)), .int (pva (pd j)), .int (pmk (pd j)), .int (pfa (pd j)), .int r19, .int (pgn (pd j))]))) H locs := hG
  generalize eG22 : gup G19 a2 (.inr (3, [.int (pca (pd j)), .int (pva (pd j)), .int (pmk (pd j)), .int (pfa (pd j)), .int r19, .int (pgn (pd j))])) = G22 at hG
  have f22 : G22 a2 = some (.inr (3, [.int (pca (pd j)), .int (pva (pd j)), .int (pmk (pd j)), .int (pfa (pd j)), .int r19, .int (pgn (pd j))])) := by rw [← eG22]; exact gup_self _ _ _
  refine lv_aload_n hx hb d_ps_seed_25 rfl (lv_at hl 0 rfl) ?_
  refine g_getN S hE.1 hG.1 f22 rfl in_pt 4 (by decide) (hE.2 _ nw_22) (fun _ h9 => h9) rfl d_ps_seed_26 ?_
  refine lv_iconst (v := (-1)) hx hb d_ps_seed_29 (by decide) ?_
  refine lv_icmp_ne (tgt := 37) hx hb d_ps_seed_30 (by decide) (fun c30 => ?_) (fun c30 => ?_)
  · refine lv_iconst (v := 0) hx hb d_ps_seed_37 (by decide) ?_
    refine W.widen (k := 1) (n := 6) (Nat.le_of_ble_eq_true rfl) (Nat.le_of_ble_eq_true rfl) ?_
    exact vx_ret (W.iret hx hb hr (fun t9 ht9 hW9 => ⟨⟨_, _, rfl, ⟨j, f, (okP_of hj hnj hpj hgj), by rw [← eG22, ← h19G, ← h19r]; exact patG_up1 hpt9 hinj hj hpj (qsd (pd j) r19), by rw [← h19r]; simp [c30]⟩, by rw [ht9]; exact hG.1, hG.2.1⟩, hG.2.2.1.F ht9⟩) hG.2.2.1.2.2 d_ps_seed_38)
  · refine lv_iconst (v := 1) hx hb d_ps_seed_33 (by decide) ?_
    refine lv_goto (tgt := 38) hx hb d_ps_seed_34 (by decide) ?_
    refine W.widen (k := 1) (n := 6) (Nat.le_of_ble_eq_true rfl) (Nat.le_of_ble_eq_true rfl) ?_
    exact vx_ret (W.iret hx hb hr (fun t9 ht9 hW9 => ⟨⟨_, _, rfl, ⟨j, f, (okP_of hj hnj hpj hgj), by rw [← eG22, ← h19G, ← h19r]; exact patG_up1 hpt9 hinj hj hpj (qsd (pd j) r19), by rw [← h19r]; simp [c30]⟩, by rw [ht9]; exact hG.1, hG.2.1⟩, hG.2.2.1.F ht9⟩) hG.2.2.1.2.2 d_ps_seed_38)

set_option maxHeartbeats 4000000 in
set_option maxRecDepth 100000 in
theorem c_ps_found (l : Launch) (hl9 : l.stackTraces = false) (Z : gZ) (G : gh) (sz : Nat) (x : Nat) {sh ma pa : Nat} {mad fk : Int32} (hx0 : G x = some (.inr (0, [.ref sh, .ref ma, .ref pa, .int mad, .int fk]))) {pt : Nat → Option Nat} {pd : Nat → Pat} (hpa : G pa = some (.inl (Z.2 3, 24, .inr (.inr (.inr (.inr pt)))))) (hpt : ∀ i a, i < 24 → pt i = some a → G a = some (.inr (3, pfs (pd i)))) (hinj : ptInj pt) (n f0 : Int32) : vx_Met l y_ps_found (wd_ps_found :: Gall) ({ frames := 7, cells := 2, slots := 12, locals := 112 }) (va_Pc [.ref x, .int n, .int f0] (gPx Z G sz)) (va_Qi (fun (r : Int32) (G9 : gh) => ∃ j f, okP pt pd n j ∧ f < 31 ∧ f0 = nI f ∧ G9 = patG G pt (va_up pd j (qfa (pd j) (pfa (pd j) ||| ((1 : Int32) <<< (nI f &&& 31))))) ∧ r = if pfa (pd j) &&& ((1 : Int32) <<< (nI f &&& 31)) = 0 then 1 else 0) (gW Z G sz) (gA G sz)) (gXC (fun X9 : String => X9 = "java/lang/IndexOutOfBoundsException" ∧ ((∀ j, ¬ okP pt pd n j) ∨ (¬ ∃ k, k < 31 ∧ f0 = nI k))) sz) 2 12 (gA G sz) := by
  refine vx_ofW (cc := b_ps_found) (maxL := 6) (ret := (some .boolean)) (by decide) rfl ?_
  intro p e s m args below meth c s₁ B hml htab hv
  obtain ⟨rfl, hsz, ⟨hG, hE⟩, hX⟩ := hv
  subst hsz
  have hx := B.exec
  have hb := B.bytes
  have hr := B.returns
  have hlocks := B.notSynchronized
  have S : CallFix p m c b_ps_found 6 s _ Gall "PackSeeds" := ⟨hx, hb, hml, findClass_of_methodNamed B.named, fun w hw => atoms_spec (ws := wd_ps_found :: Gall) B.pre w (List.mem_cons_of_mem _ hw)⟩
  have hG : gS (gA G s.heap.size) s.heap Z.1 cls G s.heap [] := gS.start hG
  have hl := lv_entry ([.ref x, .int n, .int f0]) (n := 6) (Nat.le_of_ble_eq_true rfl)
  rw [lg_entry_eq]
  generalize (lg_sl ([.ref x, .int n, .int f0]) ++ List.replicate (6 - (lg_sl ([.ref x, .int n, .int f0])).length) Slot.unset).toArray = ls at hl ⊢
  have hl : lv_has ls 6 [(0, .ref x), (1, .int n), (2, .int f0)] := hl
  refine lv_aload_n hx hb d_ps_found_0 rfl (lv_at hl 0 rfl) ?_
  refine lv_iload_n hx hb d_ps_found_1 rfl (lv_at hl 1 rfl) ?_
  refine g_xretq (Nat.le_refl _) (g_xrunV (As := [.int n]) (rest := []) S lk_ps_48 k_ps_present (c_ps_present l hl9 Z G s.heap.size x hx0 hpa hpt n) ⟨rfl, rfl⟩ ⟨(Nat.le_of_ble_eq_true rfl), (Nat.le_of_ble_eq_true rfl)⟩ (gPxV hG hE hX hx0 rfl) rfl hl.1 rfl (Nat.le_of_ble_eq_true rfl) d_ps_found_2 ⟨(Nat.le_of_ble_eq_true rfl), (Nat.le_of_ble_eq_true rfl)⟩) (g_out htab hlocks (fun E h => ⟨h.1, Or.inl h.2⟩) (fun _ h => nomatch h) (Nat.le_of_ble_eq_true rfl) (Nat.le_of_ble_eq_true rfl)) (fun r2 h2 => ?_)
  obtain ⟨a2, j, hr2, hj, hnj, hpj, hgj⟩ := h2
  subst hr2
  refine lv_astore_n (lv' := [(3, .ref a2), (0, .ref x), (1, .int n), (2, .int f0)]) hx hb d_ps_found_5 rfl hl (by decide) rfl (fun ls hl => ?_)
  refine lv_iload_n hx hb d_ps_found_6 rfl (lv_at hl 3 rfl) ?_
  refine g_xreti (Nat.le_refl _) (g_xrunS (As := [.int f0]) (rest := []) S lk_ps_118 k_ps_existingFault (c_ps_existingFault l hl9 Z G s.heap.size f0) ⟨rfl, rfl⟩ ⟨(Nat.le_of_ble_eq_true rfl), (Nat.le_of_ble_eq_true rfl)⟩ (gPxS hG hE hX) rfl hl.1 rfl (Nat.le_of_ble_eq_true rfl) d_ps_found_7 ⟨(Nat.le_of_ble_eq_true rfl), (Nat.le_of_ble_eq_true rfl)⟩) (g_out htab hlocks (fun E h => ⟨h.1, Or.inr h.2⟩) (fun _ h => nomatch h) (Nat.le_of_ble_eq_true rfl) (Nat.le_of_ble_eq_true rfl)) (fun r7 h7 => ?_)
  obtain ⟨f, hf, hff, hr7⟩ := h7
  refine lv_istore (lv' := [(4, .int r7), (3, .ref a2), (0, .ref x), (1, .int n), (2, .int f0)]) hx hb d_ps_found_10 hl (by decide) rfl (fun ls hl => ?_)
  refine lv_aload_n hx hb d_ps_found_12 rfl (lv_at hl 1 rfl) ?_
  refine g_getN S hE.1 hG.1 (hpt j a2 hj hpj) rfl in_pt 3 (by decide) (hE.2 _ nw_21) (fun _ h9 => h9) rfl d_ps_found_13 ?_
  refine lv_iload hx hb d_ps_found_16 (lv_at hl 0 rfl) ?_
  refine lv_iand hx hb d_ps_found_18 ?_
  refine lv_if_ne (tgt := 26) hx hb d_ps_found_19 (by decide) (fun c19 => ?_) (fun c19 => ?_)
  · refine lv_iconst (v := 0) hx hb d_ps_found_26 (by decide) ?_
    refine lv_istore (lv' := [(5, .int 0), (4, .int r7), (3, .ref a2), (0, .ref x), (1, .int n), (2, .int f0)]) hx hb d_ps_found_27 hl (by decide) rfl (fun ls hl => ?_)
    refine lv_aload_n hx hb d_ps_found_29 rfl (lv_at hl 2 rfl) ?_
    refine lv_dup hx hb d_ps_found_30 rfl ?_
    refine g_getN S hE.1 hG.1 (hpt j a2 hj hpj) rfl in_pt 3 (by decide) (hE.2 _ nw_21) (fun _ h9 => h9) rfl d_ps_found_31 ?_
    refine lv_iload hx hb d_ps_found_34 (lv_at hl 1 rfl) ?_
    refine lv_ior hx hb d_ps_found_36 ?_
    refine g_putN S hE.1 hG (hpt j a2 hj hpj) rfl in_pt ty_pt tyok_pt nm_pt 3 (by decide) (hE.2 _ nw_21) (fun _ h9 => h9) rfl (ty := .int) (by decide +kernel) rfl rfl (Nat.le_of_ble_eq_true rfl) d_ps_found_37 (fun H locs hG => ?_)
    have hG : gS (gA G s.heap.size) s.heap Z.1 cls (gup G a2 (.inr (3, [.int (pca (pd j)), .int (pva (pd j)), .int (pmk (pd j)), .int ((pfa (pd j)) ||| r7), .int (psd (pd j)), .int (pgn (pd j))]))) H locs := hG
    generalize eG37 : gup G a2 (.inr (3, [.int (pca (pd j)), .int (pva (pd j)), .int (pmk (pd j)), .int ((pfa (pd j)) ||| r7), .int (psd (pd j)), .int (pgn (pd j))])) = G37 at hG
    have f37_x : G37 x = some (.inr (0, [.ref sh, .ref ma, .ref pa, .int mad, .int fk])) := by rw [← eG37]; exact gup_keep (hpt j a2 hj hpj) hx0 (by simp)
    have f37_pa : G37 pa = some (.inl (Z.2 3, 24, .inr (.inr (.inr (.inr pt))))) := by rw [← eG37]; exact gup_keep (hpt j a2 hj hpj) hpa (by simp)
    have f37 : G37 a2 = some (.inr (3, [.int (pca (pd j)), .int (pva (pd j)), .int (pmk (pd j)), .int ((pfa (pd j)) ||| r7), .int (psd (pd j)), .int (pgn (pd j))])) := by rw [← eG37]; exact gup_self _ _ _
    refine lv_iload hx hb d_ps_found_40 (lv_at hl 0 rfl) ?_
    refine W.widen (k := 2) (n := 12) (Nat.le_of_ble_eq_true rfl) (Nat.le_of_ble_eq_true rfl) ?_
    exact vx_ret (W.zret hx hb hr rfl (fun t9 ht9 hW9 => ⟨⟨_, _, rfl, ⟨j, f, (okP_of hj hnj hpj hgj), hf, hff, by rw [← eG37, ← hr7]; exact patG_up1 hpt hinj hj hpj (qfa (pd j) (pfa (pd j) ||| r7)), by rw [← hr7]; simp [c19]⟩, by rw [ht9]; exact hG.1, hG.2.1⟩, hG.2.2.1.F ht9⟩) hG.2.2.1.2.2 d_ps_found_42)
  · refine lv_iconst (v := 1) hx hb d_ps_found_22 (by decide) ?_
    refine lv_goto (tgt := 27) hx hb d_ps_found_23 (by decide) ?_
    refine lv_istore (lv' := [(5, .int 1), (4, .int r7), (3, .ref a2), (0, .ref x), (1, .int n), (2, .int f0)]) hx hb d_ps_found_27 hl (by decide) rfl (fun ls hl => ?_)
    refine lv_aload_n hx hb d_ps_found_29 rfl (lv_at hl 2 rfl) ?_
    refine lv_dup hx hb d_ps_found_30 rfl ?_
    refine g_getN S hE.1 hG.1 (hpt j a2 hj hpj) rfl in_pt 3 (by decide) (hE.2 _ nw_21) (fun _ h9 => h9) rfl d_ps_found_31 ?_
    refine lv_iload hx hb d_ps_found_34 (lv_at hl 1 rfl) ?_
    refine lv_ior hx hb d_ps_found_36 ?_
    refine g_putN S hE.1 hG (hpt j a2 hj hpj) rfl in_pt ty_pt tyok_pt nm_pt 3 (by decide) (hE.2 _ nw_21) (fun _ h9 => h9) rfl (ty := .int) (by decide +kernel) rfl rfl (Nat.le_of_ble_eq_true rfl) d_ps_found_37 (fun H locs hG => ?_)
    have hG : gS (gA G s.heap.size) s.heap Z.1 cls (gup G a2 (.inr (3, [.int (pca (pd j)), .int (pva (pd j)), .int (pmk (pd j)), .int ((pfa (pd j)) ||| r7), .int (psd (pd j)), .int (pgn (pd j))]))) H locs := hG
    generalize eG37 : gup G a2 (.inr (3, [.int (pca (pd j)), .int (pva (pd j)), .int (pmk (pd j)), .int ((pfa (pd j)) ||| r7), .int (psd (pd j)), .int (pgn (pd j))])) = G37 at hG
    have f37_x : G37 x = some (.inr (0, [.ref sh, .ref ma, .ref pa, .int mad, .int fk])) := by rw [← eG37]; exact gup_keep (hpt j a2 hj hpj) hx0 (by simp)
    have f37_pa : G37 pa = some (.inl (Z.2 3, 24, .inr (.inr (.inr (.inr pt))))) := by rw [← eG37]; exact gup_keep (hpt j a2 hj hpj) hpa (by simp)
    have f37 : G37 a2 = some (.inr (3, [.int (pca (pd j)), .int (pva (pd j)), .int (pmk (pd j)), .int ((pfa (pd j)) ||| r7), .int (psd (pd j)), .int (pgn (pd j))])) := by rw [← eG37]; exact gup_self _ _ _
    refine lv_iload hx hb d_ps_found_40 (lv_at hl 0 rfl) ?_
    refine W.widen (k := 2) (n := 12) (Nat.le_of_ble_eq_true rfl) (Nat.le_of_ble_eq_true rfl) ?_
    exact vx_ret (W.zret hx hb hr rfl (fun t9 ht9 hW9 => ⟨⟨_, _, rfl, ⟨j, f, (okP_of hj hnj hpj hgj), hf, hff, by rw [← eG37, ← hr7]; exact patG_up1 hpt hinj hj hpj (qfa (pd j) (pfa (pd j) ||| r7)), by rw [← hr7]; simp [c19]⟩, by rw [ht9]; exact hG.1, hG.2.1⟩, hG.2.2.1.F ht9⟩) hG.2.2.1.2.2 d_ps_found_42)

set_option maxHeartbeats 4000000 in
set_option maxRecDepth 100000 in
theorem c_ps_mask (l : Launch) (hl9 : l.stackTraces = false) (Z : gZ) (G : gh) (sz : Nat) (x : Nat) {sh ma pa : Nat} {mad fk : Int32} (hx0 : G x = some (.inr (0, [.ref sh, .ref ma, .ref pa, .int mad, .int fk]))) {C E : Nat} (hs : G sh = some (.inr (1, [.int (nI C), .int (nI E)]))) (hC : C ≤ 4) (hE8 : E ≤ 8) {pt : Nat → Option Nat} {pd : Nat → Pat} (hpa : G pa = some (.inl (Z.2 3, 24, .inr (.inr (.inr (.inr pt)))))) (hpt : ∀ i a, i < 24 → pt i = some a → G a = some (.inr (3, pfs (pd i)))) (hinj : ptInj pt) (n c0 e0 : Int32) : vx_Met l y_ps_mask (wd_ps_mask :: Gall) ({ frames := 7, cells := 2, slots := 12, locals := 112 }) (va_Pc [.ref x, .int n, .int c0, .int e0] (gPx Z G sz)) (va_Qi (fun (r : Int32) (G9 : gh) => ∃ j k q, okP pt pd n j ∧ k < C ∧ q < E ∧ c0 = nI k ∧ e0 = nI q ∧ G9 = patG G pt (va_up pd j (qmk (pd j) (pmk (pd j) ||| plC (nI k) (nI q)))) ∧ r = if pmk (pd j) &&& plC (nI k) (nI q) = 0 then 1 else 0) (gW Z G sz) (gA G sz)) (gXC (fun X9 : String => X9 = "java/lang/IndexOutOfBoundsException" ∧ ((∀ j, ¬ okP pt pd n j) ∨ (¬ ∃ k j, k < C ∧ j < E ∧ c0 = nI k ∧ e0 = nI j))) sz) 2 12 (gA G sz) := by
  refine vx_ofW (cc := b_ps_mask) (maxL := 7) (ret := (some .boolean)) (by decide) rfl ?_
  intro p e s m args below meth c s₁ B hml htab hv
  obtain ⟨rfl, hsz, ⟨hG, hE⟩, hX⟩ := hv
  subst hsz
  have hx := B.exec
  have hb := B.bytes
  have hr := B.returns
  have hlocks := B.notSynchronized
  have S : CallFix p m c b_ps_mask 7 s _ Gall "PackSeeds" := ⟨hx, hb, hml, findClass_of_methodNamed B.named, fun w hw => atoms_spec (ws := wd_ps_mask :: Gall) B.pre w (List.mem_cons_of_mem _ hw)⟩
  have hG : gS (gA G s.heap.size) s.heap Z.1 cls G s.heap [] := gS.start hG
  have hl := lv_entry ([.ref x, .int n, .int c0, .int e0]) (n := 7) (Nat.le_of_ble_eq_true rfl)
  rw [lg_entry_eq]
  generalize (lg_sl ([.ref x, .int n, .int c0, .int e0]) ++ List.replicate (7 - (lg_sl ([.ref x, .int n, .int c0, .int e0])).length) Slot.unset).toArray = ls at hl ⊢
  have hl : lv_has ls 7 [(0, .ref x), (1, .int n), (2, .int c0), (3, .int e0)] := hl
  refine lv_aload_n hx hb d_ps_mask_0 rfl (lv_at hl 0 rfl) ?_
  refine lv_iload_n hx hb d_ps_mask_1 rfl (lv_at hl 1 rfl) ?_
  refine g_xretq (Nat.le_refl _) (g_xrunV (As := [.int n]) (rest := []) S lk_ps_48 k_ps_present (c_ps_present l hl9 Z G s.heap.size x hx0 hpa hpt n) ⟨rfl, rfl⟩ ⟨(Nat.le_of_ble_eq_true rfl), (Nat.le_of_ble_eq_true rfl)⟩ (gPxV hG hE hX hx0 rfl) rfl hl.1 rfl (Nat.le_of_ble_eq_true rfl) d_ps_mask_2 ⟨(Nat.le_of_ble_eq_true rfl), (Nat.le_of_ble_eq_true rfl)⟩) (g_out htab hlocks (fun E h => ⟨h.1, Or.inl h.2⟩) (fun _ h => nomatch h) (Nat.le_of_ble_eq_true rfl) (Nat.le_of_ble_eq_true rfl)) (fun r2 h2 => ?_)
  obtain ⟨a2, j, hr2, hj, hnj, hpj, hgj⟩ := h2
  subst hr2
  refine lv_astore (lv' := [(4, .ref a2), (0, .ref x), (1, .int n), (2, .int c0), (3, .int e0)]) hx hb d_ps_mask_5 hl (by decide) rfl (fun ls hl => ?_)
  refine lv_aload_n hx hb d_ps_mask_7 rfl (lv_at hl 1 rfl) ?_
  refine lv_iload_n hx hb d_ps_mask_8 rfl (lv_at hl 3 rfl) ?_
  refine lv_iload_n hx hb d_ps_mask_9 rfl (lv_at hl 4 rfl) ?_
  refine g_xreti (Nat.le_refl _) (g_xrunV (As := [.int c0, .int e0]) (rest := []) S lk_ps_52 k_ps_existingPlace (c_ps_existingPlace l hl9 Z G s.heap.size x hx0 hs hC hE8 c0 e0) ⟨rfl, rfl⟩ ⟨(Nat.le_of_ble_eq_true rfl), (Nat.le_of_ble_eq_true rfl)⟩ (gPxV hG hE hX hx0 rfl) rfl hl.1 rfl (Nat.le_of_ble_eq_true rfl) d_ps_mask_10 ⟨(Nat.le_of_ble_eq_true rfl), (Nat.le_of_ble_eq_true rfl)⟩) (g_out htab hlocks (fun E h => ⟨h.1, Or.inr h.2⟩) (fun _ h => nomatch h) (Nat.le_of_ble_eq_true rfl) (Nat.le_of_ble_eq_true rfl)) (fun r10 h10 => ?_)
  obtain ⟨k, q, hk, hq, hck, heq, hr10⟩ := h10
  refine lv_istore (lv' := [(5, .int r10), (4, .ref a2), (0, .ref x), (1, .int n), (2, .int c0), (3, .int e0)]) hx hb d_ps_mask_13 hl (by decide) rfl (fun ls hl => ?_)
  refine lv_aload hx hb d_ps_mask_15 (lv_at hl 1 rfl) ?_
  refine g_getN S hE.1 hG.1 (hpt j a2 hj hpj) rfl in_pt 2 (by decide) (hE.2 _ nw_20) (fun _ h9 => h9) rfl d_ps_mask_17 ?_
  refine lv_iload hx hb d_ps_mask_20 (lv_at hl 0 rfl) ?_
  refine lv_iand hx hb d_ps_mask_22 ?_
  refine lv_if_ne (tgt := 30) hx hb d_ps_mask_23 (by decide) (fun c23 => ?_) (fun c23 => ?_)
  · refine lv_iconst (v := 0) hx hb d_ps_mask_30 (by decide) ?_
    refine lv_istore (lv' := [(6, .int 0), (5, .int r10), (4, .ref a2), (0, .ref x), (1, .int n), (2, .int c0), (3, .int e0)]) hx hb d_ps_mask_31 hl (by decide) rfl (fun ls hl => ?_)
    refine lv_aload hx hb d_ps_mask_33 (lv_at hl 2 rfl) ?_
    refine lv_dup hx hb d_ps_mask_35 rfl ?_
    refine g_getN S hE.1 hG.1 (hpt j a2 hj hpj) rfl in_pt 2 (by decide) (hE.2 _ nw_20) (fun _ h9 => h9) rfl d_ps_mask_36 ?_
    refine lv_iload hx hb d_ps_mask_39 (lv_at hl 1 rfl) ?_
    refine lv_ior hx hb d_ps_mask_41 ?_
    refine g_putN S hE.1 hG (hpt j a2 hj hpj) rfl in_pt ty_pt tyok_pt nm_pt 2 (by decide) (hE.2 _ nw_20) (fun _ h9 => h9) rfl (ty := .int) (by decide +kernel) rfl rfl (Nat.le_of_ble_eq_true rfl) d_ps_mask_42 (fun H locs hG => ?_)
    have hG : gS (gA G s.heap.size) s.heap Z.1 cls (gup G a2 (.inr (3, [.int (pca (pd j)), .int (pva (pd j)), .int ((pmk (pd j)) ||| r10), .int (pfa (pd j)), .int (psd (pd j)), .int (pgn (pd j))]))) H locs := hG
    generalize eG42 : gup G a2 (.inr (3, [.int (pca (pd j)), .int (pva (pd j)), .int ((pmk (pd j)) ||| r10), .int (pfa (pd j)), .int (psd (pd j)), .int (pgn (pd j))])) = G42 at hG
    have f42_x : G42 x = some (.inr (0, [.ref sh, .ref ma, .ref pa, .int mad, .int fk])) := by rw [← eG42]; exact gup_keep (hpt j a2 hj hpj) hx0 (by simp)
    have f42_pa : G42 pa = some (.inl (Z.2 3, 24, .inr (.inr (.inr (.inr pt))))) := by rw [← eG42]; exact gup_keep (hpt j a2 hj hpj) hpa (by simp)
    have f42_sh : G42 sh = some (.inr (1, [.int (nI C), .int (nI E)])) := by rw [← eG42]; exact gup_keep (hpt j a2 hj hpj) hs (by simp)
    have f42 : G42 a2 = some (.inr (3, [.int (pca (pd j)), .int (pva (pd j)), .int ((pmk (pd j)) ||| r10), .int (pfa (pd j)), .int (psd (pd j)), .int (pgn (pd j))])) := by rw [← eG42]; exact gup_self _ _ _
    refine lv_iload hx hb d_ps_mask_45 (lv_at hl 0 rfl) ?_
    refine W.widen (k := 2) (n := 12) (Nat.le_of_ble_eq_true rfl) (Nat.le_of_ble_eq_true rfl) ?_
    exact vx_ret (W.zret hx hb hr rfl (fun t9 ht9 hW9 => ⟨⟨_, _, rfl, ⟨j, k, q, (okP_of hj hnj hpj hgj), hk, hq, hck, heq, by rw [← eG42, ← hr10]; exact patG_up1 hpt hinj hj hpj (qmk (pd j) (pmk (pd j) ||| r10)), by rw [← hr10]; simp [c23]⟩, by rw [ht9]; exact hG.1, hG.2.1⟩, hG.2.2.1.F ht9⟩) hG.2.2.1.2.2 d_ps_mask_47)
  · refine lv_iconst (v := 1) hx hb d_ps_mask_26 (by decide) ?_
    refine lv_goto (tgt := 31) hx hb d_ps_mask_27 (by decide) ?_
    refine lv_istore (lv' := [(6, .int 1), (5, .int r10), (4, .ref a2), (0, .ref x), (1, .int n), (2, .int c0), (3, .int e0)]) hx hb d_ps_mask_31 hl (by decide) rfl (fun ls hl => ?_)
    refine lv_aload hx hb d_ps_mask_33 (lv_at hl 2 rfl) ?_
    refine lv_dup hx hb d_ps_mask_35 rfl ?_
    refine g_getN S hE.1 hG.1 (hpt j a2 hj hpj) rfl in_pt 2 (by decide) (hE.2 _ nw_20) (fun _ h9 => h9) rfl d_ps_mask_36 ?_
    refine lv_iload hx hb d_ps_mask_39 (lv_at hl 1 rfl) ?_
    refine lv_ior hx hb d_ps_mask_41 ?_
    refine g_putN S hE.1 hG (hpt j a2 hj hpj) rfl in_pt ty_pt tyok_pt nm_pt 2 (by decide) (hE.2 _ nw_20) (fun _ h9 => h9) rfl (ty := .int) (by decide +kernel) rfl rfl (Nat.le_of_ble_eq_true rfl) d_ps_mask_42 (fun H locs hG => ?_)
    have hG : gS (gA G s.heap.size) s.heap Z.1 cls (gup G a2 (.inr (3, [.int (pca (pd j)), .int (pva (pd j)), .int ((pmk (pd j)) ||| r10), .int (pfa (pd j)), .int (psd (pd j)), .int (pgn (pd j))]))) H locs := hG
    generalize eG42 : gup G a2 (.inr (3, [.int (pca (pd j)), .int (pva (pd j)), .int ((pmk (pd j)) ||| r10), .int (pfa (pd j)), .int (psd (pd j)), .int (pgn (pd j))])) = G42 at hG
    have f42_x : G42 x = some (.inr (0, [.ref sh, .ref ma, .ref pa, .int mad, .int fk])) := by rw [← eG42]; exact gup_keep (hpt j a2 hj hpj) hx0 (by simp)
    have f42_pa : G42 pa = some (.inl (Z.2 3, 24, .inr (.inr (.inr (.inr pt))))) := by rw [← eG42]; exact gup_keep (hpt j a2 hj hpj) hpa (by simp)
    have f42_sh : G42 sh = some (.inr (1, [.int (nI C), .int (nI E)])) := by rw [← eG42]; exact gup_keep (hpt j a2 hj hpj) hs (by simp)
    have f42 : G42 a2 = some (.inr (3, [.int (pca (pd j)), .int (pva (pd j)), .int ((pmk (pd j)) ||| r10), .int (pfa (pd j)), .int (psd (pd j)), .int (pgn (pd j))])) := by rw [← eG42]; exact gup_self _ _ _
    refine lv_iload hx hb d_ps_mask_45 (lv_at hl 0 rfl) ?_
    refine W.widen (k := 2) (n := 12) (Nat.le_of_ble_eq_true rfl) (Nat.le_of_ble_eq_true rfl) ?_
    exact vx_ret (W.zret hx hb hr rfl (fun t9 ht9 hW9 => ⟨⟨_, _, rfl, ⟨j, k, q, (okP_of hj hnj hpj hgj), hk, hq, hck, heq, by rw [← eG42, ← hr10]; exact patG_up1 hpt hinj hj hpj (qmk (pd j) (pmk (pd j) ||| r10)), by rw [← hr10]; simp [c23]⟩, by rw [ht9]; exact hG.1, hG.2.1⟩, hG.2.2.1.F ht9⟩) hG.2.2.1.2.2 d_ps_mask_47)

set_option maxHeartbeats 4000000 in
set_option maxRecDepth 100000 in
theorem c_ps_fill (l : Launch) (hl9 : l.stackTraces = false) (Z : gZ) (G : gh) (sz : Nat) (x : Nat) {sh ma pa : Nat} {mad fk : Int32} (hx0 : G x = some (.inr (0, [.ref sh, .ref ma, .ref pa, .int mad, .int fk]))) (v : Int32) : vx_Met l y_ps_fill (wd_ps_fill :: Gall) ({ frames := 6, cells := 1, slots := 6, locals := 90 }) (va_Pc [.ref x, .int v] (gPx Z G sz)) (va_Qi (fun (r : Int32) (G9 : gh) => (∃ k, k < 3 ∧ v = nI k) ∧ G9 = gup G x (.inr (0, [.ref sh, .ref ma, .ref pa, .int mad, .int v])) ∧ r = if v = fk then 0 else 1) (gW Z G sz) (gA G sz)) (gXC (fun X9 : String => X9 = "java/lang/IllegalArgumentException" ∧ ¬ ∃ k, k < 3 ∧ v = nI k) sz) 1 6 (gA G sz) := by
  refine vx_ofW (cc := b_ps_fill) (maxL := 3) (ret := (some .boolean)) (by decide) rfl ?_
  intro p e s m args below meth c s₁ B hml htab hv
  obtain ⟨rfl, hsz, ⟨hG, hE⟩, hX⟩ := hv
  subst hsz
  have hx := B.exec
  have hb := B.bytes
  have hr := B.returns
  have hlocks := B.notSynchronized
  have S : CallFix p m c b_ps_fill 3 s _ Gall "PackSeeds" := ⟨hx, hb, hml, findClass_of_methodNamed B.named, fun w hw => atoms_spec (ws := wd_ps_fill :: Gall) B.pre w (List.mem_cons_of_mem _ hw)⟩
  have hG : gS (gA G s.heap.size) s.heap Z.1 cls G s.heap [] := gS.start hG
  have hl := lv_entry ([.ref x, .int v]) (n := 3) (Nat.le_of_ble_eq_true rfl)
  rw [lg_entry_eq]
  generalize (lg_sl ([.ref x, .int v]) ++ List.replicate (3 - (lg_sl ([.ref x, .int v])).length) Slot.unset).toArray = ls at hl ⊢
  have hl : lv_has ls 3 [(0, .ref x), (1, .int v)] := hl
  refine lv_iload_n hx hb d_ps_fill_0 rfl (lv_at hl 1 rfl) ?_
  refine lv_if_lt (tgt := 9) hx hb d_ps_fill_1 (by decide) (fun c1 => ?_) (fun c1 => ?_)
  · exact g_throw (text := "a fill is 0 .. 2") S hE hl9 hX (by decide) (by decide +kernel) tw_280 tw_12 hat_60 hgd_60 (fun _ h => nomatch h) (fun _ h => nomatch h) hl.1 d_ps_fill_9 d_ps_fill_12 d_ps_fill_13 d_ps_fill_15 d_ps_fill_18 htab (Nat.le_of_ble_eq_true rfl) (Nat.le_of_ble_eq_true rfl) (Nat.le_of_ble_eq_true rfl) (Nat.le_of_ble_eq_true rfl) hlocks ⟨rfl, by rintro ⟨k, hk, rfl⟩; first | exact absurd c1 (nI_pos (by omega)) | exact absurd (rng2' hk) c6⟩ (Nat.le_of_ble_eq_true rfl) (Nat.le_of_ble_eq_true rfl)
  · refine lv_iload_n hx hb d_ps_fill_4 rfl (lv_at hl 1 rfl) ?_
    refine lv_iconst (v := 2) hx hb d_ps_fill_5 (by decide) ?_
    refine lv_icmp_le (tgt := 19) hx hb d_ps_fill_6 (by decide) (fun c6 => ?_) (fun c6 => ?_)
    · refine lv_iload_n hx hb d_ps_fill_19 rfl (lv_at hl 1 rfl) ?_
      refine lv_aload_n hx hb d_ps_fill_20 rfl (lv_at hl 0 rfl) ?_
      refine g_get S hE.1 hG.1 hx0 rfl in_ps 4 (by decide) tw_72 (fun _ h9 => h9) rfl d_ps_fill_21 ?_
      refine lv_icmp_eq (tgt := 31) hx hb d_ps_fill_24 (by decide) (fun c24 => ?_) (fun c24 => ?_)
      · refine lv_iconst (v := 0) hx hb d_ps_fill_31 (by decide) ?_
        refine lv_istore_n (lv' := [(2, .int 0), (0, .ref x), (1, .int v)]) hx hb d_ps_fill_32 rfl hl (by decide) rfl (fun ls hl => ?_)
        refine lv_aload_n hx hb d_ps_fill_33 rfl (lv_at hl 1 rfl) ?_
        refine lv_iload_n hx hb d_ps_fill_34 rfl (lv_at hl 2 rfl) ?_
        refine g_put S hE.1 hG hx0 rfl in_ps ty_ps tyok_ps nm_ps 4 (by decide) tw_72 (fun _ h9 => h9) rfl (ty := .int) (by decide +kernel) rfl rfl (Nat.le_of_ble_eq_true rfl) d_ps_fill_35 (fun H locs hG => ?_)
        have hG : gS (gA G s.heap.size) s.heap Z.1 cls (gup G x (.inr (0, [.ref sh, .ref ma, .ref pa, .int mad, .int v]))) H locs := hG
        generalize eG35 : gup G x (.inr (0, [.ref sh, .ref ma, .ref pa, .int mad, .int v])) = G35 at hG
        have f35 : G35 x = some (.inr (0, [.ref sh, .ref ma, .ref pa, .int mad, .int v])) := by rw [← eG35]; exact gup_self _ _ _
        refine lv_iload_n hx hb d_ps_fill_38 rfl (lv_at hl 0 rfl) ?_
        refine W.widen (k := 1) (n := 6) (Nat.le_of_ble_eq_true rfl) (Nat.le_of_ble_eq_true rfl) ?_
        exact vx_ret (W.zret hx hb hr rfl (fun t9 ht9 hW9 => ⟨⟨_, _, rfl, ⟨rng2 c1 c6, (by rw [← eG35]), by simp [c24]⟩, by rw [ht9]; exact hG.1, hG.2.1⟩, hG.2.2.1.F ht9⟩) hG.2.2.1.2.2 d_ps_fill_39)
      · refine lv_iconst (v := 1) hx hb d_ps_fill_27 (by decide) ?_
        refine lv_goto (tgt := 32) hx hb d_ps_fill_28 (by decide) ?_
        refine lv_istore_n (lv' := [(2, .int 1), (0, .ref x), (1, .int v)]) hx hb d_ps_fill_32 rfl hl (by decide) rfl (fun ls hl => ?_)
        refine lv_aload_n hx hb d_ps_fill_33 rfl (lv_at hl 1 rfl) ?_
        refine lv_iload_n hx hb d_ps_fill_34 rfl (lv_at hl 2 rfl) ?_
        refine g_put S hE.1 hG hx0 rfl in_ps ty_ps tyok_ps nm_ps 4 (by decide) tw_72 (fun _ h9 => h9) rfl (ty := .int) (by decide +kernel) rfl rfl (Nat.le_of_ble_eq_true rfl) d_ps_fill_35 (fun H locs hG => ?_)
        have hG : gS (gA G s.heap.size) s.heap Z.1 cls (gup G x (.inr (0, [.ref sh, .ref ma, .ref pa, .int mad, .int v]))) H locs := hG
        generalize eG35 : gup G x (.inr (0, [.ref sh, .ref ma, .ref pa, .int mad, .int v])) = G35 at hG
        have f35 : G35 x = some (.inr (0, [.ref sh, .ref ma, .ref pa, .int mad, .int v])) := by rw [← eG35]; exact gup_self _ _ _
        refine lv_iload_n hx hb d_ps_fill_38 rfl (lv_at hl 0 rfl) ?_
        refine W.widen (k := 1) (n := 6) (Nat.le_of_ble_eq_true rfl) (Nat.le_of_ble_eq_true rfl) ?_
        exact vx_ret (W.zret hx hb hr rfl (fun t9 ht9 hW9 => ⟨⟨_, _, rfl, ⟨rng2 c1 c6, (by rw [← eG35]), by simp [c24]⟩, by rw [ht9]; exact hG.1, hG.2.1⟩, hG.2.2.1.F ht9⟩) hG.2.2.1.2.2 d_ps_fill_39)
    · exact g_throw (text := "a fill is 0 .. 2") S hE hl9 hX (by decide) (by decide +kernel) tw_280 tw_12 hat_60 hgd_60 (fun _ h => nomatch h) (fun _ h => nomatch h) hl.1 d_ps_fill_9 d_ps_fill_12 d_ps_fill_13 d_ps_fill_15 d_ps_fill_18 htab (Nat.le_of_ble_eq_true rfl) (Nat.le_of_ble_eq_true rfl) (Nat.le_of_ble_eq_true rfl) (Nat.le_of_ble_eq_true rfl) hlocks ⟨rfl, by rintro ⟨k, hk, rfl⟩; first | exact absurd c1 (nI_pos (by omega)) | exact absurd (rng2' hk) c6⟩ (Nat.le_of_ble_eq_true rfl) (Nat.le_of_ble_eq_true rfl)

set_option maxHeartbeats 4000000 in
set_option maxRecDepth 100000 in
theorem c_ps_care (l : Launch) (hl9 : l.stackTraces = false) (Z : gZ) (G : gh) (sz : Nat) (x : Nat) {sh ma pa : Nat} {mad fk : Int32} (hx0 : G x = some (.inr (0, [.ref sh, .ref ma, .ref pa, .int mad, .int fk]))) {C E : Nat} (hs : G sh = some (.inr (1, [.int (nI C), .int (nI E)]))) (hC : C ≤ 4) (hE8 : E ≤ 8) {pt : Nat → Option Nat} {pd : Nat → Pat} (hpa : G pa = some (.inl (Z.2 3, 24, .inr (.inr (.inr (.inr pt)))))) (hpt : ∀ i a, i < 24 → pt i = some a → G a = some (.inr (3, pfs (pd i)))) (hinj : ptInj pt) (n c0 e0 v : Int32) : vx_Met l y_ps_care (wd_ps_care :: Gall) ({ frames := 7, cells := 3, slots := 18, locals := 112 }) (va_Pc [.ref x, .int n, .int c0, .int e0, .int v] (gPx Z G sz)) (va_Qi (fun (r : Int32) (G9 : gh) => ∃ j k q, okP pt pd n j ∧ k < C ∧ q < E ∧ c0 = nI k ∧ e0 = nI q ∧ (v = -1 ∨ v = 0 ∨ v = 1) ∧ ((carC (pca (pd j)) (pva (pd j)) (plC (nI k) (nI q)) = v ∧ r = 0 ∧ G9 = G) ∨ (¬ carC (pca (pd j)) (pva (pd j)) (plC (nI k) (nI q)) = v ∧ r = 1 ∧ G9 = patG G pt (va_up pd j (qcare (pd j) (plC (nI k) (nI q)) v))))) (gW Z G sz) (gA G sz)) (gXC (fun X9 : String => (X9 = "java/lang/IndexOutOfBoundsException" ∧ ((∀ j, ¬ okP pt pd n j) ∨ (¬ ∃ k j, k < C ∧ j < E ∧ c0 = nI k ∧ e0 = nI j))) ∨ (X9 = "java/lang/IllegalArgumentException" ∧ (∃ j, okP pt pd n j) ∧ (∃ k j, k < C ∧ j < E ∧ c0 = nI k ∧ e0 = nI j) ∧ ¬ (v = -1 ∨ v = 0 ∨ v = 1))) sz) 3 18 (gA G sz) := by
  refine vx_ofW (cc := b_ps_care) (maxL := 7) (ret := (some .boolean)) (by decide) rfl ?_
  intro p e s m args below meth c s₁ B hml htab hv
  obtain ⟨rfl, hsz, ⟨hG, hE⟩, hX⟩ := hv
  subst hsz
  have hx := B.exec
  have hb := B.bytes
  have hr := B.returns
  have hlocks := B.notSynchronized
  have S : CallFix p m c b_ps_care 7 s _ Gall "PackSeeds" := ⟨hx, hb, hml, findClass_of_methodNamed B.named, fun w hw => atoms_spec (ws := wd_ps_care :: Gall) B.pre w (List.mem_cons_of_mem _ hw)⟩
  have hG : gS (gA G s.heap.size) s.heap Z.1 cls G s.heap [] := gS.start hG
  have hl := lv_entry ([.ref x, .int n, .int c0, .int e0, .int v]) (n := 7) (Nat.le_of_ble_eq_true rfl)
  rw [lg_entry_eq]
  generalize (lg_sl ([.ref x, .int n, .int c0, .int e0, .int v]) ++ List.replicate (7 - (lg_sl ([.ref x, .int n, .int c0, .int e0, .int v])).length) Slot.unset).toArray = ls at hl ⊢
  have hl : lv_has ls 7 [(0, .ref x), (1, .int n), (2, .int c0), (3, .int e0), (4, .int v)] := hl
  refine lv_aload_n hx hb d_ps_care_0 rfl (lv_at hl 0 rfl) ?_
  refine lv_iload_n hx hb d_ps_care_1 rfl (lv_at hl 1 rfl) ?_
  refine g_xretq (Nat.le_refl _) (g_xrunV (As := [.int n]) (rest := []) S lk_ps_48 k_ps_present (c_ps_present l hl9 Z G s.heap.size x hx0 hpa hpt n) ⟨rfl, rfl⟩ ⟨(Nat.le_of_ble_eq_true rfl), (Nat.le_of_ble_eq_true rfl)⟩ (gPxV hG hE hX hx0 rfl) rfl hl.1 rfl (Nat.le_of_ble_eq_true rfl) d_ps_care_2 ⟨(Nat.le_of_ble_eq_true rfl), (Nat.le_of_ble_eq_true rfl)⟩) (g_out htab hlocks (fun E h => Or.inl ⟨h.1, Or.inl h.2⟩) (fun _ h => nomatch h) (Nat.le_of_ble_eq_true rfl) (Nat.le_of_ble_eq_true rfl)) (fun r2 h2 => ?_)
  obtain ⟨a2, j, hr2, hj, hnj, hpj, hgj⟩ := h2
  subst hr2
  refine lv_astore (lv' := [(5, .ref a2), (0, .ref x), (1, .int n), (2, .int c0), (3, .int e0), (4, .int v)]) hx hb d_ps_care_5 hl (by decide) rfl (fun ls hl => ?_)
  refine lv_aload_n hx hb d_ps_care_7 rfl (lv_at hl 1 rfl) ?_
  refine lv_iload_n hx hb d_ps_care_8 rfl (lv_at hl 3 rfl) ?_
  refine lv_iload_n hx hb d_ps_care_9 rfl (lv_at hl 4 rfl) ?_
  refine g_xreti (Nat.le_refl _) (g_xrunV (As := [.int c0, .int e0]) (rest := []) S lk_ps_52 k_ps_existingPlace (c_ps_existingPlace l hl9 Z G s.heap.size x hx0 hs hC hE8 c0 e0) ⟨rfl, rfl⟩ ⟨(Nat.le_of_ble_eq_true rfl), (Nat.le_of_ble_eq_true rfl)⟩ (gPxV hG hE hX hx0 rfl) rfl hl.1 rfl (Nat.le_of_ble_eq_true rfl) d_ps_care_10 ⟨(Nat.le_of_ble_eq_true rfl), (Nat.le_of_ble_eq_true rfl)⟩) (g_out htab hlocks (fun E h => Or.inl ⟨h.1, Or.inr h.2⟩) (fun _ h => nomatch h) (Nat.le_of_ble_eq_true rfl) (Nat.le_of_ble_eq_true rfl)) (fun r10 h10 => ?_)
  obtain ⟨k, q, hk, hq, hck, heq, hr10⟩ := h10
  refine lv_istore (lv' := [(6, .int r10), (5, .ref a2), (0, .ref x), (1, .int n), (2, .int c0), (3, .int e0), (4, .int v)]) hx hb d_ps_care_13 hl (by decide) rfl (fun ls hl => ?_)
  refine lv_iload hx hb d_ps_care_15 (lv_at hl 6 rfl) ?_
  refine lv_iconst (v := (-1)) hx hb d_ps_care_17 (by decide) ?_
  refine lv_icmp_eq (tgt := 42) hx hb d_ps_care_18 (by decide) (fun c18 => ?_) (fun c18 => ?_)
  · refine lv_aload hx hb d_ps_care_42 (lv_at hl 1 rfl) ?_
    refine lv_iload hx hb d_ps_care_44 (lv_at hl 0 rfl) ?_
    refine lv_iload hx hb d_ps_care_46 (lv_at hl 6 rfl) ?_
    refine g_wi hG (g_runVN (As := [.int r10, .int v]) (rest := []) S hE lk_ps_61 k_pt_setCare (c_pt_setCare l Z G s.heap.size a2 (hpt j a2 hj hpj) r10 v) ⟨rfl, rfl⟩ ⟨(Nat.le_of_ble_eq_true rfl), (Nat.le_of_ble_eq_true rfl)⟩ (gPwV hG.1 hE (hpt j a2 hj hpj) rfl) rfl hl.1 rfl (Nat.le_of_ble_eq_true rfl) d_ps_care_48 ⟨(Nat.le_of_ble_eq_true rfl), (Nat.le_of_ble_eq_true rfl)⟩) (fun r48 G48 H locs h48 hG => ?_)
    refine W.widen (k := 3) (n := 18) (Nat.le_of_ble_eq_true rfl) (Nat.le_of_ble_eq_true rfl) ?_
    exact vx_ret (W.zret hx hb hr (by rcases h48 with h | h <;> rw [h.2.1] <;> rfl) (fun t9 ht9 hW9 => ⟨⟨_, _, rfl, ⟨j, k, q, (okP_of hj hnj hpj hgj), hk, hq, hck, heq, by first | exact Or.inl c18 | exact Or.inr (Or.inl c23) | exact Or.inr (Or.inr c29), by rw [← hr10]; rcases h48 with h | h; exact Or.inl h; exact Or.inr ⟨h.1, h.2.1, by rw [h.2.2]; exact patG_up1 hpt hinj hj hpj _⟩⟩, by rw [ht9]; exact hG.1, hG.2.1⟩, hG.2.2.1.F ht9⟩) hG.2.2.1.2.2 d_ps_care_51)
  · refine lv_iload hx hb d_ps_care_21 (lv_at hl 6 rfl) ?_
    refine lv_if_eq (tgt := 42) hx hb d_ps_care_23 (by decide) (fun c23 => ?_) (fun c23 => ?_)
    · refine lv_aload hx hb d_ps_care_42 (lv_at hl 1 rfl) ?_
      refine lv_iload hx hb d_ps_care_44 (lv_at hl 0 rfl) ?_
      refine lv_iload hx hb d_ps_care_46 (lv_at hl 6 rfl) ?_
      refine g_wi hG (g_runVN (As := [.int r10, .int v]) (rest := []) S hE lk_ps_61 k_pt_setCare (c_pt_setCare l Z G s.heap.size a2 (hpt j a2 hj hpj) r10 v) ⟨rfl, rfl⟩ ⟨(Nat.le_of_ble_eq_true rfl), (Nat.le_of_ble_eq_true rfl)⟩ (gPwV hG.1 hE (hpt j a2 hj hpj) rfl) rfl hl.1 rfl (Nat.le_of_ble_eq_true rfl) d_ps_care_48 ⟨(Nat.le_of_ble_eq_true rfl), (Nat.le_of_ble_eq_true rfl)⟩) (fun r48 G48 H locs h48 hG => ?_)
      refine W.widen (k := 3) (n := 18) (Nat.le_of_ble_eq_true rfl) (Nat.le_of_ble_eq_true rfl) ?_
      exact vx_ret (W.zret hx hb hr (by rcases h48 with h | h <;> rw [h.2.1] <;> rfl) (fun t9 ht9 hW9 => ⟨⟨_, _, rfl, ⟨j, k, q, (okP_of hj hnj hpj hgj), hk, hq, hck, heq, by first | exact Or.inl c18 | exact Or.inr (Or.inl c23) | exact Or.inr (Or.inr c29), by rw [← hr10]; rcases h48 with h | h; exact Or.inl h; exact Or.inr ⟨h.1, h.2.1, by rw [h.2.2]; exact patG_up1 hpt hinj hj hpj _⟩⟩, by rw [ht9]; exact hG.1, hG.2.1⟩, hG.2.2.1.F ht9⟩) hG.2.2.1.2.2 d_ps_care_51)
    · refine lv_iload hx hb d_ps_care_26 (lv_at hl 6 rfl) ?_
      refine lv_iconst (v := 1) hx hb d_ps_care_28 (by decide) ?_
      refine lv_icmp_eq (tgt := 42) hx hb d_ps_care_29 (by decide) (fun c29 => ?_) (fun c29 => ?_)
      · refine lv_aload hx hb d_ps_care_42 (lv_at hl 1 rfl) ?_
        refine lv_iload hx hb d_ps_care_44 (lv_at hl 0 rfl) ?_
        refine lv_iload hx hb d_ps_care_46 (lv_at hl 6 rfl) ?_
        refine g_wi hG (g_runVN (As := [.int r10, .int v]) (rest := []) S hE lk_ps_61 k_pt_setCare (c_pt_setCare l Z G s.heap.size a2 (hpt j a2 hj hpj) r10 v) ⟨rfl, rfl⟩ ⟨(Nat.le_of_ble_eq_true rfl), (Nat.le_of_ble_eq_true rfl)⟩ (gPwV hG.1 hE (hpt j a2 hj hpj) rfl) rfl hl.1 rfl (Nat.le_of_ble_eq_true rfl) d_ps_care_48 ⟨(Nat.le_of_ble_eq_true rfl), (Nat.le_of_ble_eq_true rfl)⟩) (fun r48 G48 H locs h48 hG => ?_)
        refine W.widen (k := 3) (n := 18) (Nat.le_of_ble_eq_true rfl) (Nat.le_of_ble_eq_true rfl) ?_
        exact vx_ret (W.zret hx hb hr (by rcases h48 with h | h <;> rw [h.2.1] <;> rfl) (fun t9 ht9 hW9 => ⟨⟨_, _, rfl, ⟨j, k, q, (okP_of hj hnj hpj hgj), hk, hq, hck, heq, by first | exact Or.inl c18 | exact Or.inr (Or.inl c23) | exact Or.inr (Or.inr c29), by rw [← hr10]; rcases h48 with h | h; exact Or.inl h; exact Or.inr ⟨h.1, h.2.1, by rw [h.2.2]; exact patG_up1 hpt hinj hj hpj _⟩⟩, by rw [ht9]; exact hG.1, hG.2.1⟩, hG.2.2.1.F ht9⟩) hG.2.2.1.2.2 d_ps_care_51)
      · exact g_throw (text := "a cell is cared for as 0, 1 or NONE") S hE hl9 hX (by decide) (by decide +kernel) tw_280 tw_12 hat_60 hgd_60 (fun _ h => nomatch h) (fun _ h => nomatch h) hl.1 d_ps_care_32 d_ps_care_35 d_ps_care_36 d_ps_care_38 d_ps_care_41 htab (Nat.le_of_ble_eq_true rfl) (Nat.le_of_ble_eq_true rfl) (Nat.le_of_ble_eq_true rfl) (Nat.le_of_ble_eq_true rfl) hlocks (Or.inr ⟨rfl, ⟨j, (okP_of hj hnj hpj hgj)⟩, ⟨k, q, hk, hq, hck, heq⟩, by rintro (h | h | h); exact c18 h; exact c23 h; exact c29 h⟩) (Nat.le_of_ble_eq_true rfl) (Nat.le_of_ble_eq_true rfl)

set_option maxHeartbeats 4000000 in
set_option maxRecDepth 100000 in
theorem c_ps_degree (l : Launch) (hl9 : l.stackTraces = false) (Z : gZ) (G : gh) (sz : Nat) (x : Nat) {sh ma pa : Nat} {mad fk : Int32} (hx0 : G x = some (.inr (0, [.ref sh, .ref ma, .ref pa, .int mad, .int fk]))) {ro : Nat} {stg tp : Int32} (hm : G ma = some (.inr (2, [.ref sh, .ref ro, .int stg, .int tp]))) {pt : Nat → Option Nat} {pd : Nat → Pat} (hpa : G pa = some (.inl (Z.2 3, 24, .inr (.inr (.inr (.inr pt)))))) (hpt : ∀ i a, i < 24 → pt i = some a → G a = some (.inr (3, pfs (pd i)))) (hinj : ptInj pt) (d : Int32) : vx_Met l y_ps_degree (wd_ps_degree :: Gall) ({ frames := 6, cells := 1, slots := 6, locals := 90 }) (va_Pc [.ref x, .int d] (gPx Z G sz)) (va_Qv (fun (G9 : gh) => (∃ N, 1 ≤ N ∧ N ≤ 16 ∧ d = nI N) ∧ G9 = patG (gup G ma (.inr (2, [.ref sh, .ref ro, .int d, .int ((1 : Int32) <<< ((d - 1) &&& 31))]))) pt (fgN pt pd 24)) (gW Z G sz) (gA G sz)) (gXC (fun X9 : String => X9 = "java/lang/IllegalArgumentException" ∧ ¬ ∃ N, 1 ≤ N ∧ N ≤ 16 ∧ d = nI N) sz) 1 6 (gA G sz) := by
  refine vx_ofW (cc := b_ps_degree) (maxL := 2) (ret := none) (by decide) rfl ?_
  intro p e s m args below meth c s₁ B hml htab hv
  obtain ⟨rfl, hsz, ⟨hG, hE⟩, hX⟩ := hv
  subst hsz
  have hx := B.exec
  have hb := B.bytes
  have hr := B.returns
  have hlocks := B.notSynchronized
  have S : CallFix p m c b_ps_degree 2 s _ Gall "PackSeeds" := ⟨hx, hb, hml, findClass_of_methodNamed B.named, fun w hw => atoms_spec (ws := wd_ps_degree :: Gall) B.pre w (List.mem_cons_of_mem _ hw)⟩
  have hG : gS (gA G s.heap.size) s.heap Z.1 cls G s.heap [] := gS.start hG
  have hl := lv_entry ([.ref x, .int d]) (n := 2) (Nat.le_of_ble_eq_true rfl)
  rw [lg_entry_eq]
  generalize (lg_sl ([.ref x, .int d]) ++ List.replicate (2 - (lg_sl ([.ref x, .int d])).length) Slot.unset).toArray = ls at hl ⊢
  have hl : lv_has ls 2 [(0, .ref x), (1, .int d)] := hl
  refine lv_iload_n hx hb d_ps_degree_0 rfl (lv_at hl 1 rfl) ?_
  refine lv_iconst (v := 1) hx hb d_ps_degree_1 (by decide) ?_
  refine lv_icmp_lt (tgt := 11) hx hb d_ps_degree_2 (by decide) (fun c2 => ?_) (fun c2 => ?_)
  · exact g_throw (text := "a degree is 1 .. 16") S hE hl9 hX (by decide) (by decide +kernel) tw_280 tw_12 hat_60 hgd_60 (fun _ h => nomatch h) (fun _ h => nomatch h) hl.1 d_ps_degree_11 d_ps_degree_14 d_ps_degree_15 d_ps_degree_17 d_ps_degree_20 htab (Nat.le_of_ble_eq_true rfl) (Nat.le_of_ble_eq_true rfl) (Nat.le_of_ble_eq_true rfl) (Nat.le_of_ble_eq_true rfl) hlocks ⟨rfl, by rintro ⟨N, h1, h2, rfl⟩; first | exact (rng16' h1 h2).1 c2 | exact c8 (rng16' h1 h2).2⟩ (Nat.le_of_ble_eq_true rfl) (Nat.le_of_ble_eq_true rfl)
  · refine lv_iload_n hx hb d_ps_degree_5 rfl (lv_at hl 1 rfl) ?_
    refine lv_bipush (v := 16) hx hb d_ps_degree_6 (by decide) ?_
    refine lv_icmp_le (tgt := 21) hx hb d_ps_degree_8 (by decide) (fun c8 => ?_) (fun c8 => ?_)
    · refine lv_aload_n hx hb d_ps_degree_21 rfl (lv_at hl 0 rfl) ?_
      refine g_get S hE.1 hG.1 hx0 rfl in_ps 1 (by decide) tw_69 (fun _ h9 => h9) rfl d_ps_degree_22 ?_
      refine lv_iload_n hx hb d_ps_degree_25 rfl (lv_at hl 1 rfl) ?_
      refine g_wv hG (g_runVN (As := [.int d]) (rest := []) S hE lk_ps_78 k_ma_restart (c_ma_restart l Z G s.heap.size ma hm d) ⟨rfl, rfl⟩ ⟨(Nat.le_of_ble_eq_true rfl), (Nat.le_of_ble_eq_true rfl)⟩ (gPwV hG.1 hE hm rfl) rfl hl.1 rfl (Nat.le_of_ble_eq_true rfl) d_ps_degree_26 ⟨(Nat.le_of_ble_eq_true rfl), (Nat.le_of_ble_eq_true rfl)⟩) (fun G26 H locs h26 hG => ?_)
      have hx1 : G26 x = some (.inr (0, [.ref sh, .ref ma, .ref pa, .int mad, .int fk])) := by rw [h26]; exact gup_keep hm hx0 (by simp)
      have hpa1 : G26 pa = some (.inl (Z.2 3, 24, .inr (.inr (.inr (.inr pt))))) := by rw [h26]; exact gup_keep hm hpa (by simp)
      have hpt1 : ∀ i a, i < 24 → pt i = some a → G26 a = some (.inr (3, pfs (pd i))) := fun i a hi hp => by rw [h26]; exact gup_keep hm (hpt i a hi hp) (by simp)
      refine lv_aload_n hx hb d_ps_degree_29 rfl (lv_at hl 0 rfl) ?_
      refine g_wv hG (g_runV (As := []) (rest := []) S lk_ps_82 k_ps_forgetSeeds (c_ps_forgetSeeds l Z G26 H.size x hx1 hpa1 hpt1 hinj) ⟨rfl, rfl⟩ ⟨(Nat.le_of_ble_eq_true rfl), (Nat.le_of_ble_eq_true rfl)⟩ (gPwV hG.1 hE hx1 rfl) rfl hl.1 rfl (Nat.le_of_ble_eq_true rfl) d_ps_degree_30 ⟨(Nat.le_of_ble_eq_true rfl), (Nat.le_of_ble_eq_true rfl)⟩) (fun G30 H locs h30 hG => ?_)
      refine W.widen (k := 1) (n := 6) (Nat.le_of_ble_eq_true rfl) (Nat.le_of_ble_eq_true rfl) ?_
      exact vx_ret (W.vret hx hb hr (fun t9 ht9 hW9 => ⟨⟨_, rfl, ⟨rng16 c2 c8, by rw [h30, h26]⟩, by rw [ht9]; exact hG.1, hG.2.1⟩, hG.2.2.1.F ht9⟩) hG.2.2.1.2.2 d_ps_degree_33)
    · exact g_throw (text := "a degree is 1 .. 16") S hE hl9 hX (by decide) (by decide +kernel) tw_280 tw_12 hat_60 hgd_60 (fun _ h => nomatch h) (fun _ h => nomatch h) hl.1 d_ps_degree_11 d_ps_degree_14 d_ps_degree_15 d_ps_degree_17 d_ps_degree_20 htab (Nat.le_of_ble_eq_true rfl) (Nat.le_of_ble_eq_true rfl) (Nat.le_of_ble_eq_true rfl) (Nat.le_of_ble_eq_true rfl) hlocks ⟨rfl, by rintro ⟨N, h1, h2, rfl⟩; first | exact (rng16' h1 h2).1 c2 | exact c8 (rng16' h1 h2).2⟩ (Nat.le_of_ble_eq_true rfl) (Nat.le_of_ble_eq_true rfl)

set_option maxHeartbeats 4000000 in
set_option maxRecDepth 100000 in
theorem c_ps_machine (l : Launch) (hl9 : l.stackTraces = false) (Z : gZ) (G : gh) (sz : Nat) (x : Nat) {sh ma pa : Nat} {mad fk : Int32} (hx0 : G x = some (.inr (0, [.ref sh, .ref ma, .ref pa, .int mad, .int fk]))) {ro D : Nat} {tp : Int32} (hm : G ma = some (.inr (2, [.ref sh, .ref ro, .int (nI D), .int tp]))) (hD0 : 1 ≤ D) (hD : D ≤ 16) {pt : Nat → Option Nat} {pd : Nat → Pat} (hpa : G pa = some (.inl (Z.2 3, 24, .inr (.inr (.inr (.inr pt)))))) (hpt : ∀ i a, i < 24 → pt i = some a → G a = some (.inr (3, pfs (pd i)))) (hinj : ptInj pt) (k0 b : Int32) : vx_Met l y_ps_machine (wd_ps_machine :: Gall) ({ frames := 6, cells := 1, slots := 6, locals := 90 }) (va_Pc [.ref x, .int k0, .int b] (gPx Z G sz)) (va_Qi (fun (r : Int32) (G9 : gh) => ∃ k, k < D ∧ k0 = nI k ∧ ¬ (k = D - 1 ∧ b = 0) ∧ ((tapC tp (nI k) = b ∧ r = 0 ∧ G9 = G) ∨ (¬ tapC tp (nI k) = b ∧ r = 1 ∧ G9 = patG (gup G ma (.inr (2, [.ref sh, .ref ro, .int (nI D), .int (tp ^^^ ((1 : Int32) <<< (nI k &&& 31)))]))) pt (fgN pt pd 24)))) (gW Z G sz) (gA G sz)) (gXC (fun X9 : String => (X9 = "java/lang/IndexOutOfBoundsException" ∧ ¬ ∃ k, k < D ∧ k0 = nI k) ∨ (X9 = "java/lang/IllegalArgumentException" ∧ k0 = nI (D - 1) ∧ b = 0)) sz) 1 6 (gA G sz) := by
  refine vx_ofW (cc := b_ps_machine) (maxL := 3) (ret := (some .boolean)) (by decide) rfl ?_
  intro p e s m args below meth c s₁ B hml htab hv
  obtain ⟨rfl, hsz, ⟨hG, hE⟩, hX⟩ := hv
  subst hsz
  have hx := B.exec
  have hb := B.bytes
  have hr := B.returns
  have hlocks := B.notSynchronized
  have S : CallFix p m c b_ps_machine 3 s _ Gall "PackSeeds" := ⟨hx, hb, hml, findClass_of_methodNamed B.named, fun w hw => atoms_spec (ws := wd_ps_machine :: Gall) B.pre w (List.mem_cons_of_mem _ hw)⟩
  have hG : gS (gA G s.heap.size) s.heap Z.1 cls G s.heap [] := gS.start hG
  have hl := lv_entry ([.ref x, .int k0, .int b]) (n := 3) (Nat.le_of_ble_eq_true rfl)
  rw [lg_entry_eq]
  generalize (lg_sl ([.ref x, .int k0, .int b]) ++ List.replicate (3 - (lg_sl ([.ref x, .int k0, .int b])).length) Slot.unset).toArray = ls at hl ⊢
  have hl : lv_has ls 3 [(0, .ref x), (1, .int k0), (2, .int b)] := hl
  refine lv_iload_n hx hb d_ps_machine_0 rfl (lv_at hl 1 rfl) ?_
  refine lv_if_lt (tgt := 15) hx hb d_ps_machine_1 (by decide) (fun c1 => ?_) (fun c1 => ?_)
  · exact g_throw (text := "there is no such stage") S hE hl9 hX (by decide) (by decide +kernel) tw_256 tw_11 hat_92 hgd_92 (fun _ h => nomatch h) (fun _ h => nomatch h) hl.1 d_ps_machine_15 d_ps_machine_18 d_ps_machine_19 d_ps_machine_21 d_ps_machine_24 htab (Nat.le_of_ble_eq_true rfl) (Nat.le_of_ble_eq_true rfl) (Nat.le_of_ble_eq_true rfl) (Nat.le_of_ble_eq_true rfl) hlocks (Or.inl ⟨rfl, by rintro ⟨k, hk, rfl⟩; first | exact absurd c1 (nI_pos (by omega)) | exact absurd (nI_lt hk (by omega)) c12⟩) (Nat.le_of_ble_eq_true rfl) (Nat.le_of_ble_eq_true rfl)
  · refine lv_iload_n hx hb d_ps_machine_4 rfl (lv_at hl 1 rfl) ?_
    refine lv_aload_n hx hb d_ps_machine_5 rfl (lv_at hl 0 rfl) ?_
    refine g_get S hE.1 hG.1 hx0 rfl in_ps 1 (by decide) tw_69 (fun _ h9 => h9) rfl d_ps_machine_6 ?_
    refine g_getN S hE.1 hG.1 hm rfl in_ma 2 (by decide) (hE.2 _ nw_6) (fun _ h9 => h9) rfl d_ps_machine_9 ?_
    refine lv_icmp_lt (tgt := 25) hx hb d_ps_machine_12 (by decide) (fun c12 => ?_) (fun c12 => ?_)
    · obtain ⟨k, hk, hkk⟩ := rngD (by omega) c1 c12
      subst hkk
      refine lv_iload_n hx hb d_ps_machine_25 rfl (lv_at hl 1 rfl) ?_
      refine lv_aload_n hx hb d_ps_machine_26 rfl (lv_at hl 0 rfl) ?_
      refine g_get S hE.1 hG.1 hx0 rfl in_ps 1 (by decide) tw_69 (fun _ h9 => h9) rfl d_ps_machine_27 ?_
      refine g_getN S hE.1 hG.1 hm rfl in_ma 2 (by decide) (hE.2 _ nw_6) (fun _ h9 => h9) rfl d_ps_machine_30 ?_
      refine lv_iconst (v := 1) hx hb d_ps_machine_33 (by decide) ?_
      refine lv_isub hx hb d_ps_machine_34 ?_
      refine g_topi (y := nI (D - 1)) (nI_pred1 hD0) ?_
      refine g_ne (tgt := 52) hx hb d_ps_machine_35 (by decide) (by omega) (by omega) (fun c35 => ?_) (fun c35 => ?_)
      · refine lv_aload_n hx hb d_ps_machine_52 rfl (lv_at hl 0 rfl) ?_
        refine g_get S hE.1 hG.1 hx0 rfl in_ps 1 (by decide) tw_69 (fun _ h9 => h9) rfl d_ps_machine_53 ?_
        refine lv_iload_n hx hb d_ps_machine_56 rfl (lv_at hl 1 rfl) ?_
        refine g_reti (g_runVN (As := [.int (nI k)]) (rest := []) S hE lk_ps_95 k_ma_isTapped (c_ma_isTapped l Z G ma hm (nI k)) ⟨rfl, rfl⟩ ⟨Nat.le_of_ble_eq_true rfl, Nat.le_of_ble_eq_true rfl⟩ (gPreV hG.1 hE hm rfl) rfl hl.1 rfl (Nat.le_of_ble_eq_true rfl) d_ps_machine_57 ⟨Nat.le_of_ble_eq_true rfl, Nat.le_of_ble_eq_true rfl⟩) (fun r57 h57 => ?_)
        refine lv_iload_n hx hb d_ps_machine_60 rfl (lv_at hl 2 rfl) ?_
        refine lv_icmp_ne (tgt := 66) hx hb d_ps_machine_61 (by decide) (fun c61 => ?_) (fun c61 => ?_)
        · refine lv_aload_n hx hb d_ps_machine_66 rfl (lv_at hl 0 rfl) ?_
          refine g_get S hE.1 hG.1 hx0 rfl in_ps 1 (by decide) tw_69 (fun _ h9 => h9) rfl d_ps_machine_67 ?_
          refine lv_iload_n hx hb d_ps_machine_70 rfl (lv_at hl 1 rfl) ?_
          refine g_wv hG (g_runVN (As := [.int (nI k)]) (rest := []) S hE lk_ps_99 k_ma_turnTap (c_ma_turnTap l Z G s.heap.size ma hm (nI k)) ⟨rfl, rfl⟩ ⟨(Nat.le_of_ble_eq_true rfl), (Nat.le_of_ble_eq_true rfl)⟩ (gPwV hG.1 hE hm rfl) rfl hl.1 rfl (Nat.le_of_ble_eq_true rfl) d_ps_machine_71 ⟨(Nat.le_of_ble_eq_true rfl), (Nat.le_of_ble_eq_true rfl)⟩) (fun G71 H locs h71 hG => ?_)
          have hx1 : G71 x = some (.inr (0, [.ref sh, .ref ma, .ref pa, .int mad, .int fk])) := by rw [h71]; exact gup_keep hm hx0 (by simp)
          have hpa1 : G71 pa = some (.inl (Z.2 3, 24, .inr (.inr (.inr (.inr pt))))) := by rw [h71]; exact gup_keep hm hpa (by simp)
          have hpt1 : ∀ i a, i < 24 → pt i = some a → G71 a = some (.inr (3, pfs (pd i))) := fun i a hi hp => by rw [h71]; exact gup_keep hm (hpt i a hi hp) (by simp)
          refine lv_aload_n hx hb d_ps_machine_74 rfl (lv_at hl 0 rfl) ?_
          refine g_wv hG (g_runV (As := []) (rest := []) S lk_ps_82 k_ps_forgetSeeds (c_ps_forgetSeeds l Z G71 H.size x hx1 hpa1 hpt1 hinj) ⟨rfl, rfl⟩ ⟨(Nat.le_of_ble_eq_true rfl), (Nat.le_of_ble_eq_true rfl)⟩ (gPwV hG.1 hE hx1 rfl) rfl hl.1 rfl (Nat.le_of_ble_eq_true rfl) d_ps_machine_75 ⟨(Nat.le_of_ble_eq_true rfl), (Nat.le_of_ble_eq_true rfl)⟩) (fun G75 H locs h75 hG => ?_)
          refine lv_iconst (v := 1) hx hb d_ps_machine_78 (by decide) ?_
          refine W.widen (k := 1) (n := 6) (Nat.le_of_ble_eq_true rfl) (Nat.le_of_ble_eq_true rfl) ?_
          exact vx_ret (W.zret hx hb hr rfl (fun t9 ht9 hW9 => ⟨⟨_, _, rfl, ⟨k, hk, rfl, (by first | exact fun z => c35 z.1 | exact fun z => c39 z.2), Or.inr ⟨by rw [← h57]; exact c61, rfl, by rw [h75, h71]⟩⟩, by rw [ht9]; exact hG.1, hG.2.1⟩, hG.2.2.1.F ht9⟩) hG.2.2.1.2.2 d_ps_machine_79)
        · refine lv_iconst (v := 0) hx hb d_ps_machine_64 (by decide) ?_
          refine W.widen (k := 1) (n := 6) (Nat.le_of_ble_eq_true rfl) (Nat.le_of_ble_eq_true rfl) ?_
          exact vx_ret (W.zret hx hb hr rfl (fun t9 ht9 hW9 => ⟨⟨_, _, rfl, ⟨k, hk, rfl, (by first | exact fun z => c35 z.1 | exact fun z => c39 z.2), Or.inl ⟨by rw [← h57]; exact c61, rfl, rfl⟩⟩, by rw [ht9]; exact hG.1, hG.2.1⟩, hG.2.2.1.F ht9⟩) hG.2.2.1.2.2 d_ps_machine_65)
      · refine lv_iload_n hx hb d_ps_machine_38 rfl (lv_at hl 2 rfl) ?_
        refine lv_if_ne (tgt := 52) hx hb d_ps_machine_39 (by decide) (fun c39 => ?_) (fun c39 => ?_)
        · refine lv_aload_n hx hb d_ps_machine_52 rfl (lv_at hl 0 rfl) ?_
          refine g_get S hE.1 hG.1 hx0 rfl in_ps 1 (by decide) tw_69 (fun _ h9 => h9) rfl d_ps_machine_53 ?_
          refine lv_iload_n hx hb d_ps_machine_56 rfl (lv_at hl 1 rfl) ?_
          refine g_reti (g_runVN (As := [.int (nI k)]) (rest := []) S hE lk_ps_95 k_ma_isTapped (c_ma_isTapped l Z G ma hm (nI k)) ⟨rfl, rfl⟩ ⟨Nat.le_of_ble_eq_true rfl, Nat.le_of_ble_eq_true rfl⟩ (gPreV hG.1 hE hm rfl) rfl hl.1 rfl (Nat.le_of_ble_eq_true rfl) d_ps_machine_57 ⟨Nat.le_of_ble_eq_true rfl, Nat.le_of_ble_eq_true rfl⟩) (fun r57 h57 => ?_)
          refine lv_iload_n hx hb d_ps_machine_60 rfl (lv_at hl 2 rfl) ?_
          refine lv_icmp_ne (tgt := 66) hx hb d_ps_machine_61 (by decide) (fun c61 => ?_) (fun c61 => ?_)
          · refine lv_aload_n hx hb d_ps_machine_66 rfl (lv_at hl 0 rfl) ?_
            refine g_get S hE.1 hG.1 hx0 rfl in_ps 1 (by decide) tw_69 (fun _ h9 => h9) rfl d_ps_machine_67 ?_
            refine lv_iload_n hx hb d_ps_machine_70 rfl (lv_at hl 1 rfl) ?_
            refine g_wv hG (g_runVN (As := [.int (nI k)]) (rest := []) S hE lk_ps_99 k_ma_turnTap (c_ma_turnTap l Z G s.heap.size ma hm (nI k)) ⟨rfl, rfl⟩ ⟨(Nat.le_of_ble_eq_true rfl), (Nat.le_of_ble_eq_true rfl)⟩ (gPwV hG.1 hE hm rfl) rfl hl.1 rfl (Nat.le_of_ble_eq_true rfl) d_ps_machine_71 ⟨(Nat.le_of_ble_eq_true rfl), (Nat.le_of_ble_eq_true rfl)⟩) (fun G71 H locs h71 hG => ?_)
            have hx1 : G71 x = some (.inr (0, [.ref sh, .ref ma, .ref pa, .int mad, .int fk])) := by rw [h71]; exact gup_keep hm hx0 (by simp)
            have hpa1 : G71 pa = some (.inl (Z.2 3, 24, .inr (.inr (.inr (.inr pt))))) := by rw [h71]; exact gup_keep hm hpa (by simp)
            have hpt1 : ∀ i a, i < 24 → pt i = some a → G71 a = some (.inr (3, pfs (pd i))) := fun i a hi hp => by rw [h71]; exact gup_keep hm (hpt i a hi hp) (by simp)
            refine lv_aload_n hx hb d_ps_machine_74 rfl (lv_at hl 0 rfl) ?_
            refine g_wv hG (g_runV (As := []) (rest := []) S lk_ps_82 k_ps_forgetSeeds (c_ps_forgetSeeds l Z G71 H.size x hx1 hpa1 hpt1 hinj) ⟨rfl, rfl⟩ ⟨(Nat.le_of_ble_eq_true rfl), (Nat.le_of_ble_eq_true rfl)⟩ (gPwV hG.1 hE hx1 rfl) rfl hl.1 rfl (Nat.le_of_ble_eq_true rfl) d_ps_machine_75 ⟨(Nat.le_of_ble_eq_true rfl), (Nat.le_of_ble_eq_true rfl)⟩) (fun G75 H locs h75 hG => ?_)
            refine lv_iconst (v := 1) hx hb d_ps_machine_78 (by decide) ?_
            refine W.widen (k := 1) (n := 6) (Nat.le_of_ble_eq_true rfl) (Nat.le_of_ble_eq_true rfl) ?_
            exact vx_ret (W.zret hx hb hr rfl (fun t9 ht9 hW9 => ⟨⟨_, _, rfl, ⟨k, hk, rfl, (by first | exact fun z => c35 z.1 | exact fun z => c39 z.2), Or.inr ⟨by rw [← h57]; exact c61, rfl, by rw [h75, h71]⟩⟩, by rw [ht9]; exact hG.1, hG.2.1⟩, hG.2.2.1.F ht9⟩) hG.2.2.1.2.2 d_ps_machine_79)
          · refine lv_iconst (v := 0) hx hb d_ps_machine_64 (by decide) ?_
            refine W.widen (k := 1) (n := 6) (Nat.le_of_ble_eq_true rfl) (Nat.le_of_ble_eq_true rfl) ?_
            exact vx_ret (W.zret hx hb hr rfl (fun t9 ht9 hW9 => ⟨⟨_, _, rfl, ⟨k, hk, rfl, (by first | exact fun z => c35 z.1 | exact fun z => c39 z.2), Or.inl ⟨by rw [← h57]; exact c61, rfl, rfl⟩⟩, by rw [ht9]; exact hG.1, hG.2.1⟩, hG.2.2.1.F ht9⟩) hG.2.2.1.2.2 d_ps_machine_65)
        · exact g_throw (text := "the last stage is always tapped") S hE hl9 hX (by decide) (by decide +kernel) tw_280 tw_12 hat_60 hgd_60 (fun _ h => nomatch h) (fun _ h => nomatch h) hl.1 d_ps_machine_42 d_ps_machine_45 d_ps_machine_46 d_ps_machine_48 d_ps_machine_51 htab (Nat.le_of_ble_eq_true rfl) (Nat.le_of_ble_eq_true rfl) (Nat.le_of_ble_eq_true rfl) (Nat.le_of_ble_eq_true rfl) hlocks (Or.inr ⟨rfl, by rw [c35], c39⟩) (Nat.le_of_ble_eq_true rfl) (Nat.le_of_ble_eq_true rfl)
    · exact g_throw (text := "there is no such stage") S hE hl9 hX (by decide) (by decide +kernel) tw_256 tw_11 hat_92 hgd_92 (fun _ h => nomatch h) (fun _ h => nomatch h) hl.1 d_ps_machine_15 d_ps_machine_18 d_ps_machine_19 d_ps_machine_21 d_ps_machine_24 htab (Nat.le_of_ble_eq_true rfl) (Nat.le_of_ble_eq_true rfl) (Nat.le_of_ble_eq_true rfl) (Nat.le_of_ble_eq_true rfl) hlocks (Or.inl ⟨rfl, by rintro ⟨k, hk, rfl⟩; first | exact absurd c1 (nI_pos (by omega)) | exact absurd (nI_lt hk (by omega)) c12⟩) (Nat.le_of_ble_eq_true rfl) (Nat.le_of_ble_eq_true rfl)

set_option maxHeartbeats 4000000 in
set_option maxRecDepth 100000 in
theorem c_ps_pattern (l : Launch) (hl9 : l.stackTraces = false) (Z : gZ) (G : gh) (sz : Nat) (x : Nat) {sh ma pa M : Nat} {fk : Int32} (hx0 : G x = some (.inr (0, [.ref sh, .ref ma, .ref pa, .int (nI M), .int fk]))) (hM : M ≤ 24) {pt : Nat → Option Nat} (hpa : G pa = some (.inl (Z.2 3, 24, .inr (.inr (.inr (.inr pt)))))) : vx_Met l y_ps_pattern (wd_ps_pattern :: Gall) ({ frames := 6, cells := 1, slots := 6, locals := 90 }) (va_Pc [.ref x] (gPx Z G sz)) (va_Qi (fun (r : Int32) (G9 : gh) => M < 24 ∧ r = nI M ∧ ∃ q, G q = none ∧ sz ≤ q ∧ G9 = gup (gup (gup G q (.inr (3, [.int 0, .int 0, .int 0, .int 0, .int (-1), .int 0]))) pa (.inl (Z.2 3, 24, .inr (.inr (.inr (.inr (va_up pt M (some q)))))))) x (.inr (0, [.ref sh, .ref ma, .ref pa, .int (nI (M + 1)), .int fk]))) (gW Z G sz) (gA G sz)) (gXC (fun X9 : String => X9 = "java/lang/UnsupportedOperationException" ∧ ¬ M < 24) sz) 1 6 (gA G sz) := by
  refine vx_ofW (cc := b_ps_pattern) (maxL := 2) (ret := (some .int)) (by decide) rfl ?_
  intro p e s m args below meth c s₁ B hml htab hv
  obtain ⟨rfl, hsz, ⟨hG, hE⟩, hX⟩ := hv
  subst hsz
  have hx := B.exec
  have hb := B.bytes
  have hr := B.returns
  have hlocks := B.notSynchronized
  have S : CallFix p m c b_ps_pattern 2 s _ Gall "PackSeeds" := ⟨hx, hb, hml, findClass_of_methodNamed B.named, fun w hw => atoms_spec (ws := wd_ps_pattern :: Gall) B.pre w (List.mem_cons_of_mem _ hw)⟩
  have hG : gS (gA G s.heap.size) s.heap Z.1 cls G s.heap [] := gS.start hG
  have hl := lv_entry ([.ref x]) (n := 2) (Nat.le_of_ble_eq_true rfl)
  rw [lg_entry_eq]
  generalize (lg_sl ([.ref x]) ++ List.replicate (2 - (lg_sl ([.ref x])).length) Slot.unset).toArray = ls at hl ⊢
  have hl : lv_has ls 2 [(0, .ref x)] := hl
  refine lv_aload_n hx hb d_ps_pattern_0 rfl (lv_at hl 0 rfl) ?_
  refine g_get S hE.1 hG.1 hx0 rfl in_ps 3 (by decide) tw_71 (fun _ h9 => h9) rfl d_ps_pattern_1 ?_
  refine lv_if_lt (tgt := 19) hx hb d_ps_pattern_4 (by decide) (fun c4 => absurd c4 (nI_pos (by omega))) (fun c4 => ?_)
  refine lv_aload_n hx hb d_ps_pattern_7 rfl (lv_at hl 0 rfl) ?_
  refine g_get S hE.1 hG.1 hx0 rfl in_ps 3 (by decide) tw_71 (fun _ h9 => h9) rfl d_ps_pattern_8 ?_
  refine lv_aload_n hx hb d_ps_pattern_11 rfl (lv_at hl 0 rfl) ?_
  refine g_get S hE.1 hG.1 hx0 rfl in_ps 2 (by decide) tw_70 (fun _ h9 => h9) rfl d_ps_pattern_12 ?_
  refine g_alen S hE.1 hG.1 hpa 3 rfl (v := nI 24) rfl d_ps_pattern_15 ?_
  refine g_lt (tgt := 29) hx hb d_ps_pattern_16 (by decide) (by omega) (by omega) (fun c16 => ?_) (fun c16 => ?_)
  · refine lv_aload_n hx hb d_ps_pattern_29 rfl (lv_at hl 0 rfl) ?_
    refine g_get S hE.1 hG.1 hx0 rfl in_ps 3 (by decide) tw_71 (fun _ h9 => h9) rfl d_ps_pattern_30 ?_
    refine lv_istore_n (lv' := [(1, .int (nI M)), (0, .ref x)]) hx hb d_ps_pattern_33 rfl hl (by decide) rfl (fun ls hl => ?_)
    refine lv_aload_n hx hb d_ps_pattern_34 rfl (lv_at hl 1 rfl) ?_
    refine g_get S hE.1 hG.1 hx0 rfl in_ps 2 (by decide) tw_70 (fun _ h9 => h9) rfl d_ps_pattern_35 ?_
    refine lv_iload_n hx hb d_ps_pattern_38 rfl (lv_at hl 0 rfl) ?_
    refine g_new S hE.1 hG (ci := 3) (fs := [.int 0, .int 0, .int 0, .int 0, .int 0, .int 0]) rfl in_pt ty_pt tyok_pt tw_66 tw_99 tw_10 (fun j hj => by rcases (show j = 0 ∨ j = 1 ∨ j = 2 ∨ j = 3 ∨ j = 4 ∨ j = 5 by omega) with rfl | rfl | rfl | rfl | rfl | rfl <;> rfl) (Nat.le_of_ble_eq_true rfl) (Nat.le_of_ble_eq_true rfl) d_ps_pattern_39 (fun q39 H hq39 hn39 hG => ?_)
    have hG : gS (gA G s.heap.size) s.heap Z.1 cls (gup G q39 (.inr (3, [.int 0, .int 0, .int 0, .int 0, .int 0, .int 0]))) H _ := hG
    generalize eG39 : gup G q39 (.inr (3, [.int 0, .int 0, .int 0, .int 0, .int 0, .int 0])) = G39 at hG
    have f39_x : G39 x = some (.inr (0, [.ref sh, .ref ma, .ref pa, .int (nI M), .int fk])) := by rw [← eG39]; exact gup_new hn39 hx0
    have f39_pa : G39 pa = some (.inl (Z.2 3, 24, .inr (.inr (.inr (.inr pt))))) := by rw [← eG39]; exact gup_new hn39 hpa
    have f39 : G39 q39 = some (.inr (3, [.int 0, .int 0, .int 0, .int 0, .int 0, .int 0])) := by rw [← eG39]; exact gup_self _ _ _
    refine lv_dup hx hb d_ps_pattern_42 rfl ?_
    refine g_wv hG (g_runIN (As := []) (rest := [.ref q39, .int (nI M), .ref pa]) S hE lk_ps_47 k_pt_init (c_pt_init l Z G39 H.size q39 f39) ⟨rfl, rfl⟩ ⟨(Nat.le_of_ble_eq_true rfl), (Nat.le_of_ble_eq_true rfl)⟩ (gPwS hG.1 hE) rfl hl.1 rfl (Nat.le_of_ble_eq_true rfl) d_ps_pattern_43 ⟨(Nat.le_of_ble_eq_true rfl), (Nat.le_of_ble_eq_true rfl)⟩) (fun G43 H locs h43 hG => ?_)
    have f43 : G43 q39 = some (.inr (3, [.int 0, .int 0, .int 0, .int 0, .int (-1), .int 0])) := by rw [h43]; exact gup_self _ _ _
    have f43_x : G43 x = some (.inr (0, [.ref sh, .ref ma, .ref pa, .int (nI M), .int fk])) := by rw [h43]; exact gup_keep f39 f39_x (by simp)
    have f43_pa : G43 pa = some (.inl (Z.2 3, 24, .inr (.inr (.inr (.inr pt))))) := by rw [h43]; exact gup_keep f39 f39_pa (by simp)
    refine g_aast S hE.1 hG f43_pa 3 rfl f43 rfl (vp_in_nI (by omega) (by omega)) d_ps_pattern_46 (fun H locs hG => ?_)
    rw [nI_clamp (show M < 2 ^ 31 by omega)] at hG
    have hG : gS (gA G s.heap.size) s.heap Z.1 cls (gup G43 pa (.inl (Z.2 3, 24, .inr (.inr (.inr (.inr (va_up pt M (some q39)))))))) H locs := hG
    generalize eG46 : gup G43 pa (.inl (Z.2 3, 24, .inr (.inr (.inr (.inr (va_up pt M (some q39))))))) = G46 at hG
    have f46_x : G46 x = some (.inr (0, [.ref sh, .ref ma, .ref pa, .int (nI M), .int fk])) := by rw [← eG46]; exact gup_keep f43_pa f43_x (by simp)
    have f46_q39 : G46 q39 = some (.inr (3, [.int 0, .int 0, .int 0, .int 0, .int (-1), .int 0])) := by rw [← eG46]; exact gup_keep f43_pa f43 (by simp)
    have f46 : G46 pa = some (.inl (Z.2 3, 24, .inr (.inr (.inr (.inr (va_up pt M (some q39))))))) := by rw [← eG46]; exact gup_self _ _ _
    refine lv_aload_n hx hb d_ps_pattern_47 rfl (lv_at hl 1 rfl) ?_
    refine lv_iload_n hx hb d_ps_pattern_48 rfl (lv_at hl 0 rfl) ?_
    refine lv_iconst (v := 1) hx hb d_ps_pattern_49 (by decide) ?_
    refine lv_iadd hx hb d_ps_pattern_50 ?_
    refine g_topi (y := nI (M + 1)) (nI_1 M) ?_
    refine g_put S hE.1 hG f46_x rfl in_ps ty_ps tyok_ps nm_ps 3 (by decide) tw_71 (fun _ h9 => h9) rfl (ty := .int) (by decide +kernel) rfl rfl (Nat.le_of_ble_eq_true rfl) d_ps_pattern_51 (fun H locs hG => ?_)
    have hG : gS (gA G s.heap.size) s.heap Z.1 cls (gup G46 x (.inr (0, [.ref sh, .ref ma, .ref pa, .int (nI (M + 1)), .int fk]))) H locs := hG
    generalize eG51 : gup G46 x (.inr (0, [.ref sh, .ref ma, .ref pa, .int (nI (M + 1)), .int fk])) = G51 at hG
    have f51_q39 : G51 q39 = some (.inr (3, [.int 0, .int 0, .int 0, .int 0, .int (-1), .int 0])) := by rw [← eG51]; exact gup_keep f46_x f46_q39 (by simp)
    have f51_pa : G51 pa = some (.inl (Z.2 3, 24, .inr (.inr (.inr (.inr (va_up pt M (some q39))))))) := by rw [← eG51]; exact gup_keep f46_x f46 (by simp)
    have f51 : G51 x = some (.inr (0, [.ref sh, .ref ma, .ref pa, .int (nI (M + 1)), .int fk])) := by rw [← eG51]; exact gup_self _ _ _
    refine lv_iload_n hx hb d_ps_pattern_54 rfl (lv_at hl 0 rfl) ?_
    refine W.widen (k := 1) (n := 6) (Nat.le_of_ble_eq_true rfl) (Nat.le_of_ble_eq_true rfl) ?_
    exact vx_ret (W.iret hx hb hr (fun t9 ht9 hW9 => ⟨⟨_, _, rfl, ⟨by omega, rfl, q39, hn39, by rw [hq39]; exact Nat.le_refl _, by rw [← eG51, ← eG46, h43, ← eG39, gup_gup]⟩, by rw [ht9]; exact hG.1, hG.2.1⟩, hG.2.2.1.F ht9⟩) hG.2.2.1.2.2 d_ps_pattern_55)
  · exact g_throw (text := "there are 24 patterns") S hE hl9 hX (by decide) (by decide +kernel) tw_146 tw_9 hat_44 hgd_44 (fun _ h => nomatch h) (fun _ h => nomatch h) hl.1 d_ps_pattern_19 d_ps_pattern_22 d_ps_pattern_23 d_ps_pattern_25 d_ps_pattern_28 htab (Nat.le_of_ble_eq_true rfl) (Nat.le_of_ble_eq_true rfl) (Nat.le_of_ble_eq_true rfl) (Nat.le_of_ble_eq_true rfl) hlocks ⟨rfl, by omega⟩ (Nat.le_of_ble_eq_true rfl) (Nat.le_of_ble_eq_true rfl)
