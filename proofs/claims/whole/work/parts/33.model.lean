set_option maxHeartbeats 4000000 in
set_option maxRecDepth 100000 in
theorem c_ma_leastSeed (l : Launch) (Z : gZ) (G : gh) (sz : Nat) (h : Nat) {sh ro D : Nat} {tp : Int32} (hm : G h = some (.inr (2, [.ref sh, .ref ro, .int (nI D), .int tp]))) {rw : Nat → Int64} (hro : G ro = some (.inl (Z.2 0, 48, .inr (.inl rw)))) {C E : Nat} (hs : G sh = some (.inr (1, [.int (nI C), .int (nI E)]))) (hC : C ≤ 4) (hE8 : E ≤ 8) (hD : D ≤ 16) (ca va : Int32) : Met l y_ma_leastSeed (wd_ma_leastSeed :: Gall) ({ frames := 3, cells := 0, slots := 0, locals := 67 }) (va_Pc [.ref h, .int ca, .int va] (gPw Z G sz)) (va_Qi (fun (r : Int32) (G9 : gh) => ∃ f : Nat → Int64, G9 = gup G ro (.inl (Z.2 0, 48, .inr (.inl f))) ∧ r = lsC (nI D) tp C E D ca va) (gW Z G sz) (gA G sz)) 0 0 (gA G sz) := by
  refine Met.ofW (cc := b_ma_leastSeed) (maxL := 5) (ret := (some .int)) (by decide) rfl ?_
  intro p e s m args below meth c s₁ B hml hv
  obtain ⟨rfl, hsz, hG, hE⟩ := hv
  subst hsz
  have hx := B.exec
  have hb := B.bytes
  have hr := B.returns
  have hlocks := B.notSynchronized
  have S : CallFix p m c b_ma_leastSeed 5 s _ Gall "PackSeeds$Machine" := ⟨hx, hb, hml, findClass_of_methodNamed B.named, fun w hw => atoms_spec (ws := wd_ma_leastSeed :: Gall) B.pre w (List.mem_cons_of_mem _ hw)⟩
  have hG : gS (gA G s.heap.size) s.heap Z.1 cls G s.heap [] := gS.start hG
  have hl := lv_entry ([.ref h, .int ca, .int va]) (n := 5) (Nat.le_of_ble_eq_true rfl)
  rw [lg_entry_eq]
  generalize (lg_sl ([.ref h, .int ca, .int va]) ++ List.replicate (5 - (lg_sl ([.ref h, .int ca, .int va])).length) Slot.unset).toArray = ls at hl ⊢
  have hl : lv_has ls 5 [(0, .ref h), (1, .int ca), (2, .int va)] := hl
  refine lv_iconst (v := nI 0) hx hb d_ma_leastSeed_0 (by decide) ?_
  refine lv_istore_n (lv' := [(3, .int (nI 0)), (0, .ref h), (1, .int ca), (2, .int va)]) hx hb d_ma_leastSeed_1 rfl hl (by decide) rfl (fun ls hl => ?_)
  refine g_indH (V := Nat × (Nat → Int64) × gh) (fun (i, f, Gx) H locs ls => (i ≤ 48 ∧ (∀ j, j < i → f j = 0) ∧ Gx = gup G ro (.inl (Z.2 0, 48, .inr (.inl f)))) ∧ gS (gA G s.heap.size) s.heap Z.1 cls Gx H locs ∧ lv_has ls 5 [(0, .ref h), (1, .int ca), (2, .int va), (3, .int (nI i))]) (fun (i, f, Gx) => 48 - i) ?_ (0, rw, G) _ ⟨⟨Nat.zero_le _, fun j hj => absurd hj (by omega), (gup_same hro).symm⟩, hG, lv_sub hl [1, 2, 3, 0] rfl⟩
  intro v H locs ls hI ih2
  obtain ⟨i, f, Gx⟩ := v
  obtain ⟨⟨hi, hf, hGx⟩, hG, hl⟩ := hI
  have hm1 : Gx h = some (.inr (2, [.ref sh, .ref ro, .int (nI D), .int tp])) := by rw [hGx]; exact gup_keep hro hm (by simp)
  have hro1 : Gx ro = some (.inl (Z.2 0, 48, .inr (.inl f))) := by rw [hGx]; exact gup_self _ _ _
  have hs1 : Gx sh = some (.inr (1, [.int (nI C), .int (nI E)])) := by rw [hGx]; exact gup_keep hro hs (by simp)
  refine lv_iload_n hx hb d_ma_leastSeed_2 rfl (lv_at hl 3 rfl) ?_
  refine lv_aload_n hx hb d_ma_leastSeed_3 rfl (lv_at hl 0 rfl) ?_
  refine g_get S hE.1 hG.1 hm1 rfl in_ma 1 (by decide) tw_52 (fun _ h9 => h9) rfl d_ma_leastSeed_4 ?_
  refine g_alen S hE.1 hG.1 hro1 0 rfl (v := nI 48) rfl d_ma_leastSeed_7 ?_
  refine g_ge (tgt := 24) hx hb d_ma_leastSeed_8 (by decide) (by omega) (by omega) (fun c8 => ?_) (fun c8 => ?_)
  · rw [hGx] at hG
    have hG := hG.lcongr (g := fun _ => 0) (fun j hj => hf j (by omega))
    obtain ⟨Gz, hGz⟩ : ∃ Gz : gh, Gz = gup G ro (.inl (Z.2 0, 48, .inr (.inl (fun _ => 0)))) := ⟨_, rfl⟩
    rw [← hGz] at hG
    have hm2 : Gz h = some (.inr (2, [.ref sh, .ref ro, .int (nI D), .int tp])) := by rw [hGz]; exact gup_keep hro hm (by simp)
    have hro2 : Gz ro = some (.inl (Z.2 0, 48, .inr (.inl (fun _ => 0)))) := by rw [hGz]; exact gup_self _ _ _
    have hs2 : Gz sh = some (.inr (1, [.int (nI C), .int (nI E)])) := by rw [hGz]; exact gup_keep hro hs (by simp)
    refine lv_iconst (v := nI 0) hx hb d_ma_leastSeed_24 (by decide) ?_
    refine lv_istore_n (lv' := [(3, .int (nI 0)), (0, .ref h), (1, .int ca), (2, .int va)]) hx hb d_ma_leastSeed_25 rfl hl (by decide) rfl (fun ls hl => ?_)
    refine g_indH (V := Nat × (Nat → Int64) × gh) (fun (t, f2, Gy) H locs ls => (t ≤ D ∧ f2 = lsR (nI D) tp C E ca t ∧ Gy = gup G ro (.inl (Z.2 0, 48, .inr (.inl f2)))) ∧ gS (gA G s.heap.size) s.heap Z.1 cls Gy H locs ∧ lv_has ls 5 [(0, .ref h), (1, .int ca), (2, .int va), (3, .int (nI t))]) (fun (t, f2, Gy) => D - t) ?_ (0, (fun _ => 0), Gz) _ ⟨⟨Nat.zero_le _, rfl, hGz⟩, hG, lv_sub hl [1, 2, 3, 0] rfl⟩
    intro v H locs ls hI ih26
    obtain ⟨t, f2, Gy⟩ := v
    obtain ⟨⟨ht, hf2, hGy⟩, hG, hl⟩ := hI
    have hm3 : Gy h = some (.inr (2, [.ref sh, .ref ro, .int (nI D), .int tp])) := by rw [hGy]; exact gup_keep hro hm (by simp)
    have hro3 : Gy ro = some (.inl (Z.2 0, 48, .inr (.inl f2))) := by rw [hGy]; exact gup_self _ _ _
    have hs3 : Gy sh = some (.inr (1, [.int (nI C), .int (nI E)])) := by rw [hGy]; exact gup_keep hro hs (by simp)
    refine lv_iload_n hx hb d_ma_leastSeed_26 rfl (lv_at hl 3 rfl) ?_
    refine lv_aload_n hx hb d_ma_leastSeed_27 rfl (lv_at hl 0 rfl) ?_
    refine g_get S hE.1 hG.1 hm3 rfl in_ma 2 (by decide) tw_53 (fun _ h9 => h9) rfl d_ma_leastSeed_28 ?_
    refine g_ge (tgt := 63) hx hb d_ma_leastSeed_31 (by decide) (by omega) (by omega) (fun c31 => ?_) (fun c31 => ?_)
    · refine lv_aload_n hx hb d_ma_leastSeed_63 rfl (lv_at hl 0 rfl) ?_
      refine lv_iload_n hx hb d_ma_leastSeed_64 rfl (lv_at hl 2 rfl) ?_
      refine lv_iconst (v := 0) hx hb d_ma_leastSeed_65 (by decide) ?_
      refine g_retl (g_runS (As := [.int va, .int 0]) (rest := [.ref h]) S lk_ma_53 k_ma_row (c_ma_row l Z Gy va 0) ⟨rfl, rfl⟩ ⟨Nat.le_of_ble_eq_true rfl, Nat.le_of_ble_eq_true rfl⟩ (gPreS hG.1 hE) rfl hl.1 rfl (Nat.le_of_ble_eq_true rfl) d_ma_leastSeed_66 ⟨Nat.le_of_ble_eq_true rfl, Nat.le_of_ble_eq_true rfl⟩) (fun r66 h66 => ?_)
      refine g_retl (g_runV (As := [.long r66]) (rest := []) S lk_ma_57 k_ma_reduced (c_ma_reduced l Z Gy h hm3 hro3 r66) ⟨rfl, rfl⟩ ⟨Nat.le_of_ble_eq_true rfl, Nat.le_of_ble_eq_true rfl⟩ (gPreV hG.1 hE hm3 rfl) rfl hl.1 rfl (Nat.le_of_ble_eq_true rfl) d_ma_leastSeed_69 ⟨Nat.le_of_ble_eq_true rfl, Nat.le_of_ble_eq_true rfl⟩) (fun r69 h69 => ?_)
      refine lv_lstore_n (lv' := [(3, .long r69), (0, .ref h), (1, .int ca), (2, .int va)]) hx hb d_ma_leastSeed_72 rfl hl (by decide) rfl (fun ls hl => ?_)
      refine lv_lload_n hx hb d_ma_leastSeed_73 rfl (lv_at hl 0 rfl) ?_
      refine g_retl (g_runS (As := [.long r69]) (rest := []) S lk_ma_65 k_ma_cellsOf (c_ma_cellsOf l Z Gy r69) ⟨rfl, rfl⟩ ⟨Nat.le_of_ble_eq_true rfl, Nat.le_of_ble_eq_true rfl⟩ (gPreS hG.1 hE) rfl hl.1 rfl (Nat.le_of_ble_eq_true rfl) d_ma_leastSeed_74 ⟨Nat.le_of_ble_eq_true rfl, Nat.le_of_ble_eq_true rfl⟩) (fun r74 h74 => ?_)
      refine lv_lconst (v := 0) hx hb d_ma_leastSeed_77 (by decide) ?_
      refine W.lcmp hx hb d_ma_leastSeed_78 ?_
      refine lv_if_eq (tgt := 86) hx hb d_ma_leastSeed_79 (by decide) (fun c79 => ?_) (fun c79 => ?_)
      · refine lv_lload_n hx hb d_ma_leastSeed_86 rfl (lv_at hl 0 rfl) ?_
        refine lv_l2i hx hb d_ma_leastSeed_87 rfl ?_
        refine W.widen (k := 0) (n := 0) (Nat.le_of_ble_eq_true rfl) (Nat.le_of_ble_eq_true rfl) ?_
        exact (W.iret hx hb hr (fun t9 ht9 hW9 => ⟨⟨_, _, rfl, ⟨f2, hGy, by
            rw [h69, h66] at h74
            have e1 : t = D := by omega
            first | (have e9 : r74 = 0 := (lg_cmp_eq _ _).mp c79; rw [h74, hf2, e1] at e9; rw [lsC, if_pos e9, h69, h66, hf2, e1]) | (have e9 : ¬ r74 = 0 := fun z => c79 ((lg_cmp_eq _ _).mpr z); rw [h74, hf2, e1] at e9; rw [lsC, if_neg e9])⟩, by rw [ht9]; exact hG.1, hG.2.1⟩, hG.2.2.1.F ht9⟩) hG.2.2.1.2.2 d_ma_leastSeed_88)
      · refine lv_iconst (v := (-1)) hx hb d_ma_leastSeed_82 (by decide) ?_
        refine lv_goto (tgt := 88) hx hb d_ma_leastSeed_83 (by decide) ?_
        refine W.widen (k := 0) (n := 0) (Nat.le_of_ble_eq_true rfl) (Nat.le_of_ble_eq_true rfl) ?_
        exact (W.iret hx hb hr (fun t9 ht9 hW9 => ⟨⟨_, _, rfl, ⟨f2, hGy, by
            rw [h69, h66] at h74
            have e1 : t = D := by omega
            first | (have e9 : r74 = 0 := (lg_cmp_eq _ _).mp c79; rw [h74, hf2, e1] at e9; rw [lsC, if_pos e9, h69, h66, hf2, e1]) | (have e9 : ¬ r74 = 0 := fun z => c79 ((lg_cmp_eq _ _).mpr z); rw [h74, hf2, e1] at e9; rw [lsC, if_neg e9])⟩, by rw [ht9]; exact hG.1, hG.2.1⟩, hG.2.2.1.F ht9⟩) hG.2.2.1.2.2 d_ma_leastSeed_88)
    · refine lv_aload_n hx hb d_ma_leastSeed_34 rfl (lv_at hl 0 rfl) ?_
      refine lv_aload_n hx hb d_ma_leastSeed_35 rfl (lv_at hl 0 rfl) ?_
      refine lv_aload_n hx hb d_ma_leastSeed_36 rfl (lv_at hl 0 rfl) ?_
      refine lv_iconst (v := 1) hx hb d_ma_leastSeed_37 (by decide) ?_
      refine lv_iload_n hx hb d_ma_leastSeed_38 rfl (lv_at hl 3 rfl) ?_
      refine lv_ishl hx hb d_ma_leastSeed_39 ?_
      refine g_reti (g_runV (As := [.int (1 <<< ((nI t) &&& 31))]) (rest := [.ref h, .ref h]) S lk_ma_50 k_ma_make (c_ma_make l Z Gy h hm3 hs3 hC hE8 (1 <<< ((nI t) &&& 31))) ⟨rfl, rfl⟩ ⟨Nat.le_of_ble_eq_true rfl, Nat.le_of_ble_eq_true rfl⟩ (gPreV hG.1 hE hm3 rfl) rfl hl.1 rfl (Nat.le_of_ble_eq_true rfl) d_ma_leastSeed_40 ⟨Nat.le_of_ble_eq_true rfl, Nat.le_of_ble_eq_true rfl⟩) (fun r40 h40 => ?_)
      refine lv_iload_n hx hb d_ma_leastSeed_43 rfl (lv_at hl 1 rfl) ?_
      refine lv_iand hx hb d_ma_leastSeed_44 ?_
      refine lv_iconst (v := 1) hx hb d_ma_leastSeed_45 (by decide) ?_
      refine lv_iload_n hx hb d_ma_leastSeed_46 rfl (lv_at hl 3 rfl) ?_
      refine lv_ishl hx hb d_ma_leastSeed_47 ?_
      refine g_retl (g_runS (As := [.int (r40 &&& ca), .int (1 <<< ((nI t) &&& 31))]) (rest := [.ref h, .ref h]) S lk_ma_53 k_ma_row (c_ma_row l Z Gy (r40 &&& ca) (1 <<< ((nI t) &&& 31))) ⟨rfl, rfl⟩ ⟨Nat.le_of_ble_eq_true rfl, Nat.le_of_ble_eq_true rfl⟩ (gPreS hG.1 hE) rfl hl.1 rfl (Nat.le_of_ble_eq_true rfl) d_ma_leastSeed_48 ⟨Nat.le_of_ble_eq_true rfl, Nat.le_of_ble_eq_true rfl⟩) (fun r48 h48 => ?_)
      refine g_retl (g_runV (As := [.long r48]) (rest := [.ref h]) S lk_ma_57 k_ma_reduced (c_ma_reduced l Z Gy h hm3 hro3 r48) ⟨rfl, rfl⟩ ⟨Nat.le_of_ble_eq_true rfl, Nat.le_of_ble_eq_true rfl⟩ (gPreV hG.1 hE hm3 rfl) rfl hl.1 rfl (Nat.le_of_ble_eq_true rfl) d_ma_leastSeed_51 ⟨Nat.le_of_ble_eq_true rfl, Nat.le_of_ble_eq_true rfl⟩) (fun r51 h51 => ?_)
      refine g_wv hG (g_runV (As := [.long r51]) (rest := []) S lk_ma_61 k_ma_keep (c_ma_keep l Z Gy H.size h hm3 hro3 r51) ⟨rfl, rfl⟩ ⟨(Nat.le_of_ble_eq_true rfl), (Nat.le_of_ble_eq_true rfl)⟩ (gPwV hG.1 hE hm3 rfl) rfl hl.1 rfl (Nat.le_of_ble_eq_true rfl) d_ma_leastSeed_54 ⟨(Nat.le_of_ble_eq_true rfl), (Nat.le_of_ble_eq_true rfl)⟩) (fun G54 H locs h54 hG => ?_)
      refine lv_iinc (v := nI (t + 1)) (lv' := [(3, .int (nI (t + 1))), (0, .ref h), (1, .int ca), (2, .int va)]) hx hb d_ma_leastSeed_57 hl (k := 3) rfl (show nI t + 1 = _ from nI_1 t) (by decide) rfl (fun ls hl => ?_)
      refine lv_goto (tgt := 26) hx hb d_ma_leastSeed_60 (by decide) ?_
      exact ih26 ((t + 1), keepC r51 f2 32, G54) _ _ _ ⟨⟨by omega, by rw [h51, h48, h40, hf2]; rfl, by rw [h54, hGy, gup_gup]⟩, hG, lv_sub hl [1, 2, 3, 0] rfl⟩ (by first | omega | (simp only []; omega))
  · refine lv_aload_n hx hb d_ma_leastSeed_11 rfl (lv_at hl 0 rfl) ?_
    refine g_get S hE.1 hG.1 hm1 rfl in_ma 1 (by decide) tw_52 (fun _ h9 => h9) rfl d_ma_leastSeed_12 ?_
    refine lv_iload_n hx hb d_ma_leastSeed_15 rfl (lv_at hl 3 rfl) ?_
    refine lv_lconst (v := 0) hx hb d_ma_leastSeed_16 (by decide) ?_
    refine g_last S hE.1 hG hro1 0 rfl (vp_in_nI (by omega) (by omega)) d_ma_leastSeed_17 (fun H locs hG => ?_)
    rw [nI_clamp (show i < 2 ^ 31 by omega)] at hG
    have hG : gS (gA G s.heap.size) s.heap Z.1 cls (gup Gx ro (.inl (Z.2 0, 48, .inr (.inl (vp_updL f i 0))))) H locs := hG
    generalize eG17 : gup Gx ro (.inl (Z.2 0, 48, .inr (.inl (vp_updL f i 0)))) = G17 at hG
    have f17_h : G17 h = some (.inr (2, [.ref sh, .ref ro, .int (nI D), .int tp])) := by rw [← eG17]; exact gup_keep hro1 hm1 (by simp)
    have f17_sh : G17 sh = some (.inr (1, [.int (nI C), .int (nI E)])) := by rw [← eG17]; exact gup_keep hro1 hs1 (by simp)
    have f17 : G17 ro = some (.inl (Z.2 0, 48, .inr (.inl (vp_updL f i 0)))) := by rw [← eG17]; exact gup_self _ _ _
    refine lv_iinc (v := nI (i + 1)) (lv' := [(3, .int (nI (i + 1))), (0, .ref h), (1, .int ca), (2, .int va)]) hx hb d_ma_leastSeed_18 hl (k := 3) rfl (show nI i + 1 = _ from nI_1 i) (by decide) rfl (fun ls hl => ?_)
    refine lv_goto (tgt := 2) hx hb d_ma_leastSeed_21 (by decide) ?_
    exact ih2 ((i + 1), vp_updL f i 0, G17) _ _ _ ⟨⟨by omega, fun j hj => by
        by_cases hji : j = i
        · subst hji; exact pk_uLs
        · rw [pk_uLn hji]; exact hf j (by omega), by rw [← eG17, hGx, gup_gup]⟩, hG, lv_sub hl [1, 2, 3, 0] rfl⟩ (by first | omega | (simp only []; omega))

set_option maxHeartbeats 4000000 in
set_option maxRecDepth 100000 in
theorem c_ps_forgetSeeds (l : Launch) (Z : gZ) (G : gh) (sz : Nat) (x : Nat) {sh ma pa : Nat} {mad fk : Int32} (hx0 : G x = some (.inr (0, [.ref sh, .ref ma, .ref pa, .int mad, .int fk]))) {pt : Nat → Option Nat} {pd : Nat → Pat} (hpa : G pa = some (.inl (Z.2 3, 24, .inr (.inr (.inr (.inr pt)))))) (hpt : ∀ i a, i < 24 → pt i = some a → G a = some (.inr (3, pfs (pd i)))) (hinj : ptInj pt) : Met l y_ps_forgetSeeds (wd_ps_forgetSeeds :: Gall) ({ frames := 1, cells := 0, slots := 0, locals := 22 }) (va_Pc [.ref x] (gPw Z G sz)) (va_Qv (fun (G9 : gh) => G9 = patG G pt (fgN pt pd 24)) (gW Z G sz) (gA G sz)) 0 0 (gA G sz) := by
  refine Met.ofW (cc := b_ps_forgetSeeds) (maxL := 3) (ret := none) (by decide) rfl ?_
  intro p e s m args below meth c s₁ B hml hv
  obtain ⟨rfl, hsz, hG, hE⟩ := hv
  subst hsz
  have hx := B.exec
  have hb := B.bytes
  have hr := B.returns
  have hlocks := B.notSynchronized
  have S : CallFix p m c b_ps_forgetSeeds 3 s _ Gall "PackSeeds" := ⟨hx, hb, hml, findClass_of_methodNamed B.named, fun w hw => atoms_spec (ws := wd_ps_forgetSeeds :: Gall) B.pre w (List.mem_cons_of_mem _ hw)⟩
  have hG : gS (gA G s.heap.size) s.heap Z.1 cls G s.heap [] := gS.start hG
  have hl := lv_entry ([.ref x]) (n := 3) (Nat.le_of_ble_eq_true rfl)
  rw [lg_entry_eq]
  generalize (lg_sl ([.ref x]) ++ List.replicate (3 - (lg_sl ([.ref x])).length) Slot.unset).toArray = ls at hl ⊢
  have hl : lv_has ls 3 [(0, .ref x)] := hl
  refine lv_iconst (v := nI 0) hx hb d_ps_forgetSeeds_0 (by decide) ?_
  refine lv_istore_n (lv' := [(1, .int (nI 0)), (0, .ref x)]) hx hb d_ps_forgetSeeds_1 rfl hl (by decide) rfl (fun ls hl => ?_)
  refine g_indH (V := Nat × (Nat → Pat) × gh) (fun (i, P, Gx) H locs ls => (i ≤ 24 ∧ P = fgN pt pd i ∧ Gx = patG G pt P) ∧ gS (gA G s.heap.size) s.heap Z.1 cls Gx H locs ∧ lv_has ls 3 [(0, .ref x), (1, .int (nI i))]) (fun (i, P, Gx) => 24 - i) ?_ (0, pd, G) _ ⟨⟨Nat.zero_le _, rfl, (patG_self hpt).symm⟩, hG, lv_sub hl [1, 0] rfl⟩
  intro v H locs ls hI ih2
  obtain ⟨i, P, Gx⟩ := v
  obtain ⟨⟨hi, hP, hGx⟩, hG, hl⟩ := hI
  have hx1 : Gx x = some (.inr (0, [.ref sh, .ref ma, .ref pa, .int mad, .int fk])) := by rw [hGx]; exact patG_keep hpt hx0 (by simp)
  have hpa1 : Gx pa = some (.inl (Z.2 3, 24, .inr (.inr (.inr (.inr pt))))) := by rw [hGx]; exact patG_keep hpt hpa (by simp)
  have hpt1 : ∀ i a, i < 24 → pt i = some a → Gx a = some (.inr (3, pfs (P i))) := fun i a hi hp => by rw [hGx]; exact patG_get hinj hi hp
  refine lv_iload_n hx hb d_ps_forgetSeeds_2 rfl (lv_at hl 1 rfl) ?_
  refine lv_aload_n hx hb d_ps_forgetSeeds_3 rfl (lv_at hl 0 rfl) ?_
  refine g_get S hE.1 hG.1 hx1 rfl in_ps 2 (by decide) tw_70 (fun _ h9 => h9) rfl d_ps_forgetSeeds_4 ?_
  refine g_alen S hE.1 hG.1 hpa1 3 rfl (v := nI 24) rfl d_ps_forgetSeeds_7 ?_
  refine g_ge (tgt := 32) hx hb d_ps_forgetSeeds_8 (by decide) (by omega) (by omega) (fun c8 => ?_) (fun c8 => ?_)
  · refine W.widen (k := 0) (n := 0) (Nat.le_of_ble_eq_true rfl) (Nat.le_of_ble_eq_true rfl) ?_
    exact (W.vret hx hb hr (fun t9 ht9 hW9 => ⟨⟨_, rfl, (by rw [hGx, hP, show i = 24 by omega]), by rw [ht9]; exact hG.1, hG.2.1⟩, hG.2.2.1.F ht9⟩) hG.2.2.1.2.2 d_ps_forgetSeeds_32)
  · refine lv_aload_n hx hb d_ps_forgetSeeds_11 rfl (lv_at hl 0 rfl) ?_
    refine lv_iload_n hx hb d_ps_forgetSeeds_12 rfl (lv_at hl 1 rfl) ?_
    refine g_retq (g_runV (As := [.int (nI i)]) (rest := []) S lk_ps_65 k_ps_presentOrNull (c_ps_presentOrNull l Z Gx x hx1 hpa1 hpt1 (nI i)) ⟨rfl, rfl⟩ ⟨Nat.le_of_ble_eq_true rfl, Nat.le_of_ble_eq_true rfl⟩ (gPreV hG.1 hE hx1 rfl) rfl hl.1 rfl (Nat.le_of_ble_eq_true rfl) d_ps_forgetSeeds_13 ⟨Nat.le_of_ble_eq_true rfl, Nat.le_of_ble_eq_true rfl⟩) (fun r13 h13 => ?_)
    cases r13 with
    | none =>
      refine lv_astore_nN (lv' := [(2, .null), (0, .ref x), (1, .int (nI i))]) hx hb d_ps_forgetSeeds_16 rfl hl (by decide) rfl (fun ls hl => ?_)
      refine lv_aload_nN hx hb d_ps_forgetSeeds_17 rfl (lv_at hl 0 rfl) ?_
      refine lv_ifnullN (tgt := 26) hx hb d_ps_forgetSeeds_18 (by decide) ?_
      refine lv_iinc (v := nI (i + 1)) (lv' := [(1, .int (nI (i + 1))), (2, .null), (0, .ref x)]) hx hb d_ps_forgetSeeds_26 hl (k := 2) rfl (show nI i + 1 = _ from nI_1 i) (by decide) rfl (fun ls hl => ?_)
      refine lv_goto (tgt := 2) hx hb d_ps_forgetSeeds_29 (by decide) ?_
      exact ih2 ((i + 1), fgN pt pd (i + 1), Gx) _ _ _ ⟨⟨by omega, rfl, by
          simp only [fgN, itr_s]; rw [← fgN, ← hP]
          first | (rw [prI_nat _ _ (by omega)] at h13; rw [← h13, hGx]; rfl) | (rw [← h13, ← eG23, hGx]; exact patG_up hinj (by omega) p13 (qsd (P i) (-1)))⟩, hG, lv_sub hl [2, 0] rfl⟩ (by first | omega | (simp only []; omega))
    | some a13 =>
      rw [prI_nat _ _ (by omega)] at h13
      obtain ⟨p13, g13⟩ := prN_some h13
      refine lv_astore_n (lv' := [(2, .ref a13), (0, .ref x), (1, .int (nI i))]) hx hb d_ps_forgetSeeds_16 rfl hl (by decide) rfl (fun ls hl => ?_)
      refine lv_aload_n hx hb d_ps_forgetSeeds_17 rfl (lv_at hl 0 rfl) ?_
      refine lv_ifnull hx hb d_ps_forgetSeeds_18 ?_
      refine lv_aload_n hx hb d_ps_forgetSeeds_21 rfl (lv_at hl 0 rfl) ?_
      refine lv_iconst (v := (-1)) hx hb d_ps_forgetSeeds_22 (by decide) ?_
      refine g_putN S hE.1 hG (hpt1 i a13 (by omega) p13) rfl in_pt ty_pt tyok_pt nm_pt 4 (by decide) (hE.2 _ nw_22) (fun _ h9 => h9) rfl (ty := .int) (by decide +kernel) rfl rfl (Nat.le_of_ble_eq_true rfl) d_ps_forgetSeeds_23 (fun H locs hG => ?_)
      have hG : gS (gA G s.heap.size) s.heap Z.1 cls (gup Gx a13 (.inr (3, [.int (pca (P i)), .int (pva (P i)), .int (pmk (P i)), .int (pfa (P i)), .int (-1), .int (pgn (P i))]))) H locs := hG
      generalize eG23 : gup Gx a13 (.inr (3, [.int (pca (P i)), .int (pva (P i)), .int (pmk (P i)), .int (pfa (P i)), .int (-1), .int (pgn (P i))])) = G23 at hG
      have f23_x : G23 x = some (.inr (0, [.ref sh, .ref ma, .ref pa, .int mad, .int fk])) := by rw [← eG23]; exact gup_keep (hpt1 i a13 (by omega) p13) hx1 (by simp)
      have f23_pa : G23 pa = some (.inl (Z.2 3, 24, .inr (.inr (.inr (.inr pt))))) := by rw [← eG23]; exact gup_keep (hpt1 i a13 (by omega) p13) hpa1 (by simp)
      have f23 : G23 a13 = some (.inr (3, [.int (pca (P i)), .int (pva (P i)), .int (pmk (P i)), .int (pfa (P i)), .int (-1), .int (pgn (P i))])) := by rw [← eG23]; exact gup_self _ _ _
      refine lv_iinc (v := nI (i + 1)) (lv' := [(1, .int (nI (i + 1))), (2, .ref a13), (0, .ref x)]) hx hb d_ps_forgetSeeds_26 hl (k := 2) rfl (show nI i + 1 = _ from nI_1 i) (by decide) rfl (fun ls hl => ?_)
      refine lv_goto (tgt := 2) hx hb d_ps_forgetSeeds_29 (by decide) ?_
      exact ih2 ((i + 1), fgN pt pd (i + 1), G23) _ _ _ ⟨⟨by omega, rfl, by
          simp only [fgN, itr_s]; rw [← fgN, ← hP]
          first | (rw [prI_nat _ _ (by omega)] at h13; rw [← h13, hGx]; rfl) | (rw [← h13, ← eG23, hGx]; exact patG_up hinj (by omega) p13 (qsd (P i) (-1)))⟩, hG, lv_sub hl [2, 0] rfl⟩ (by first | omega | (simp only []; omega))

set_option maxHeartbeats 4000000 in
set_option maxRecDepth 100000 in
theorem c_ps_takeFromBehind (l : Launch) (Z : gZ) (G : gh) (sz : Nat) (x : Nat) {sh ma pa : Nat} {mad fk : Int32} (hx0 : G x = some (.inr (0, [.ref sh, .ref ma, .ref pa, .int mad, .int fk]))) {pt : Nat → Option Nat} {pd : Nat → Pat} (hpa : G pa = some (.inl (Z.2 3, 24, .inr (.inr (.inr (.inr pt)))))) (hpt : ∀ i a, i < 24 → pt i = some a → G a = some (.inr (3, pfs (pd i)))) (hinj : ptInj pt) (tk i : Nat) (hi : i < 24) (hti : pt i = some tk) : Met l y_ps_takeFromBehind (wd_ps_takeFromBehind :: Gall) ({ frames := 1, cells := 0, slots := 0, locals := 22 }) (va_Pc [.ref x, .ref tk, .int (nI i)] (gPw Z G sz)) (va_Qv (fun (G9 : gh) => G9 = patG G pt (tkB pt i pd (23 - i))) (gW Z G sz) (gA G sz)) 0 0 (gA G sz) := by
  refine Met.ofW (cc := b_ps_takeFromBehind) (maxL := 5) (ret := none) (by decide) rfl ?_
  intro p e s m args below meth c s₁ B hml hv
  obtain ⟨rfl, hsz, hG, hE⟩ := hv
  subst hsz
  have hx := B.exec
  have hb := B.bytes
  have hr := B.returns
  have hlocks := B.notSynchronized
  have S : CallFix p m c b_ps_takeFromBehind 5 s _ Gall "PackSeeds" := ⟨hx, hb, hml, findClass_of_methodNamed B.named, fun w hw => atoms_spec (ws := wd_ps_takeFromBehind :: Gall) B.pre w (List.mem_cons_of_mem _ hw)⟩
  have hG : gS (gA G s.heap.size) s.heap Z.1 cls G s.heap [] := gS.start hG
  have hl := lv_entry ([.ref x, .ref tk, .int (nI i)]) (n := 5) (Nat.le_of_ble_eq_true rfl)
  rw [lg_entry_eq]
  generalize (lg_sl ([.ref x, .ref tk, .int (nI i)]) ++ List.replicate (5 - (lg_sl ([.ref x, .ref tk, .int (nI i)])).length) Slot.unset).toArray = ls at hl ⊢
  have hl : lv_has ls 5 [(0, .ref x), (1, .ref tk), (2, .int (nI i))] := hl
  refine lv_iload_n hx hb d_ps_takeFromBehind_0 rfl (lv_at hl 2 rfl) ?_
  refine lv_iconst (v := 1) hx hb d_ps_takeFromBehind_1 (by decide) ?_
  refine lv_iadd hx hb d_ps_takeFromBehind_2 ?_
  refine g_topi (y := nI (i + 1)) (nI_1 i) ?_
  refine lv_istore_n (lv' := [(3, .int (nI (i + 1))), (0, .ref x), (1, .ref tk), (2, .int (nI i))]) hx hb d_ps_takeFromBehind_3 rfl hl (by decide) rfl (fun ls hl => ?_)
  refine g_indH (V := Nat × (Nat → Pat) × gh) (fun (m9, P, Gx) H locs ls => (m9 ≤ 23 - i ∧ P = tkB pt i pd m9 ∧ Gx = patG G pt P) ∧ gS (gA G s.heap.size) s.heap Z.1 cls Gx H locs ∧ lv_has ls 5 [(0, .ref x), (1, .ref tk), (2, .int (nI i)), (3, .int (nI (i + 1 + m9)))]) (fun (m9, P, Gx) => 23 - i - m9) ?_ (0, pd, G) _ ⟨⟨Nat.zero_le _, rfl, (patG_self hpt).symm⟩, hG, lv_sub hl [1, 2, 3, 0] rfl⟩
  intro v H locs ls hI ih4
  obtain ⟨m9, P, Gx⟩ := v
  obtain ⟨⟨hm9, hP, hGx⟩, hG, hl⟩ := hI
  have hx1 : Gx x = some (.inr (0, [.ref sh, .ref ma, .ref pa, .int mad, .int fk])) := by rw [hGx]; exact patG_keep hpt hx0 (by simp)
  have hpa1 : Gx pa = some (.inl (Z.2 3, 24, .inr (.inr (.inr (.inr pt))))) := by rw [hGx]; exact patG_keep hpt hpa (by simp)
  have hpt1 : ∀ i a, i < 24 → pt i = some a → Gx a = some (.inr (3, pfs (P i))) := fun i a hi hp => by rw [hGx]; exact patG_get hinj hi hp
  refine lv_iload_n hx hb d_ps_takeFromBehind_4 rfl (lv_at hl 3 rfl) ?_
  refine lv_aload_n hx hb d_ps_takeFromBehind_5 rfl (lv_at hl 0 rfl) ?_
  refine g_get S hE.1 hG.1 hx1 rfl in_ps 2 (by decide) tw_70 (fun _ h9 => h9) rfl d_ps_takeFromBehind_6 ?_
  refine g_alen S hE.1 hG.1 hpa1 3 rfl (v := nI 24) rfl d_ps_takeFromBehind_9 ?_
  refine g_ge (tgt := 46) hx hb d_ps_takeFromBehind_10 (by decide) (by omega) (by omega) (fun c10 => ?_) (fun c10 => ?_)
  · refine W.widen (k := 0) (n := 0) (Nat.le_of_ble_eq_true rfl) (Nat.le_of_ble_eq_true rfl) ?_
    exact (W.vret hx hb hr (fun t9 ht9 hW9 => ⟨⟨_, rfl, (by rw [hGx, hP, show m9 = 23 - i by omega]), by rw [ht9]; exact hG.1, hG.2.1⟩, hG.2.2.1.F ht9⟩) hG.2.2.1.2.2 d_ps_takeFromBehind_46)
  · refine lv_aload_n hx hb d_ps_takeFromBehind_13 rfl (lv_at hl 0 rfl) ?_
    refine lv_iload_n hx hb d_ps_takeFromBehind_14 rfl (lv_at hl 3 rfl) ?_
    refine g_retq (g_runV (As := [.int (nI (i + 1 + m9))]) (rest := []) S lk_ps_65 k_ps_presentOrNull (c_ps_presentOrNull l Z Gx x hx1 hpa1 hpt1 (nI (i + 1 + m9))) ⟨rfl, rfl⟩ ⟨Nat.le_of_ble_eq_true rfl, Nat.le_of_ble_eq_true rfl⟩ (gPreV hG.1 hE hx1 rfl) rfl hl.1 rfl (Nat.le_of_ble_eq_true rfl) d_ps_takeFromBehind_15 ⟨Nat.le_of_ble_eq_true rfl, Nat.le_of_ble_eq_true rfl⟩) (fun r15 h15 => ?_)
    cases r15 with
    | none =>
      refine lv_astoreN (lv' := [(4, .null), (0, .ref x), (1, .ref tk), (2, .int (nI i)), (3, .int (nI (i + 1 + m9)))]) hx hb d_ps_takeFromBehind_18 hl (by decide) rfl (fun ls hl => ?_)
      refine lv_aloadN hx hb d_ps_takeFromBehind_20 (lv_at hl 0 rfl) ?_
      refine lv_ifnullN (tgt := 40) hx hb d_ps_takeFromBehind_22 (by decide) ?_
      refine lv_iinc (v := nI ((i + 1 + m9) + 1)) (lv' := [(3, .int (nI ((i + 1 + m9) + 1))), (4, .null), (0, .ref x), (1, .ref tk), (2, .int (nI i))]) hx hb d_ps_takeFromBehind_40 hl (k := 4) rfl (show nI (i + 1 + m9) + 1 = _ from nI_1 (i + 1 + m9)) (by decide) rfl (fun ls hl => ?_)
      refine lv_goto (tgt := 4) hx hb d_ps_takeFromBehind_43 (by decide) ?_
      exact ih4 ((m9 + 1), tkB pt i pd (m9 + 1), Gx) _ _ _ ⟨⟨by omega, rfl, by
          simp only [tkB, itr_s]; rw [← tkB, ← hP]; unfold tkS
          first | (rw [prI_nat _ _ (by omega)] at h15; rw [← h15, hGx]; rfl) | (rw [if_neg (fun z => z.2 (by rw [← h28]; exact c31)), hGx]) | (rw [if_pos ⟨by rw [← h15]; rfl, by rw [← h28]; exact c31⟩, h37, hGx, patG_up hinj hi hti, patG_up hinj (by omega) p15])⟩, hG, lv_sub hl [2, 3, 4, 0] rfl⟩ (by first | omega | (simp only []; omega))
    | some a15 =>
      rw [prI_nat _ _ (by omega)] at h15
      obtain ⟨p15, g15⟩ := prN_some h15
      refine lv_astore (lv' := [(4, .ref a15), (0, .ref x), (1, .ref tk), (2, .int (nI i)), (3, .int (nI (i + 1 + m9)))]) hx hb d_ps_takeFromBehind_18 hl (by decide) rfl (fun ls hl => ?_)
      refine lv_aload hx hb d_ps_takeFromBehind_20 (lv_at hl 0 rfl) ?_
      refine lv_ifnull hx hb d_ps_takeFromBehind_22 ?_
      refine lv_aload_n hx hb d_ps_takeFromBehind_25 rfl (lv_at hl 2 rfl) ?_
      refine lv_aload hx hb d_ps_takeFromBehind_26 (lv_at hl 0 rfl) ?_
      refine g_reti (g_runVN (As := [.ref a15]) (rest := []) S hE lk_ps_190 k_pt_goesWith (c_pt_goesWith l Z Gx tk (hpt1 i tk hi hti) a15 (hpt1 (i + 1 + m9) a15 (by omega) p15)) ⟨rfl, rfl⟩ ⟨Nat.le_of_ble_eq_true rfl, Nat.le_of_ble_eq_true rfl⟩ (gPreV hG.1 hE (hpt1 i tk hi hti) rfl) rfl hl.1 rfl (Nat.le_of_ble_eq_true rfl) d_ps_takeFromBehind_28 ⟨Nat.le_of_ble_eq_true rfl, Nat.le_of_ble_eq_true rfl⟩) (fun r28 h28 => ?_)
      refine lv_if_eq (tgt := 40) hx hb d_ps_takeFromBehind_31 (by decide) (fun c31 => ?_) (fun c31 => ?_)
      · refine lv_iinc (v := nI ((i + 1 + m9) + 1)) (lv' := [(3, .int (nI ((i + 1 + m9) + 1))), (4, .ref a15), (0, .ref x), (1, .ref tk), (2, .int (nI i))]) hx hb d_ps_takeFromBehind_40 hl (k := 4) rfl (show nI (i + 1 + m9) + 1 = _ from nI_1 (i + 1 + m9)) (by decide) rfl (fun ls hl => ?_)
        refine lv_goto (tgt := 4) hx hb d_ps_takeFromBehind_43 (by decide) ?_
        exact ih4 ((m9 + 1), tkB pt i pd (m9 + 1), Gx) _ _ _ ⟨⟨by omega, rfl, by
            simp only [tkB, itr_s]; rw [← tkB, ← hP]; unfold tkS
            first | (rw [prI_nat _ _ (by omega)] at h15; rw [← h15, hGx]; rfl) | (rw [if_neg (fun z => z.2 (by rw [← h28]; exact c31)), hGx]) | (rw [if_pos ⟨by rw [← h15]; rfl, by rw [← h28]; exact c31⟩, h37, hGx, patG_up hinj hi hti, patG_up hinj (by omega) p15])⟩, hG, lv_sub hl [2, 3, 4, 0] rfl⟩ (by first | omega | (simp only []; omega))
      · refine lv_aload_n hx hb d_ps_takeFromBehind_34 rfl (lv_at hl 2 rfl) ?_
        refine lv_aload hx hb d_ps_takeFromBehind_35 (lv_at hl 0 rfl) ?_
        refine g_wv hG (g_runVN (As := [.ref a15]) (rest := []) S hE lk_ps_194 k_pt_take (c_pt_take l Z Gx H.size tk (hpt1 i tk hi hti) a15 (hpt1 (i + 1 + m9) a15 (by omega) p15) (fun h => by have h8 := hinj i (i + 1 + m9) tk hi (by omega) hti (by rw [p15, h]); omega)) ⟨rfl, rfl⟩ ⟨(Nat.le_of_ble_eq_true rfl), (Nat.le_of_ble_eq_true rfl)⟩ (gPwV hG.1 hE (hpt1 i tk hi hti) rfl) rfl hl.1 rfl (Nat.le_of_ble_eq_true rfl) d_ps_takeFromBehind_37 ⟨(Nat.le_of_ble_eq_true rfl), (Nat.le_of_ble_eq_true rfl)⟩) (fun G37 H locs h37 hG => ?_)
        refine lv_iinc (v := nI ((i + 1 + m9) + 1)) (lv' := [(3, .int (nI ((i + 1 + m9) + 1))), (4, .ref a15), (0, .ref x), (1, .ref tk), (2, .int (nI i))]) hx hb d_ps_takeFromBehind_40 hl (k := 4) rfl (show nI (i + 1 + m9) + 1 = _ from nI_1 (i + 1 + m9)) (by decide) rfl (fun ls hl => ?_)
        refine lv_goto (tgt := 4) hx hb d_ps_takeFromBehind_43 (by decide) ?_
        exact ih4 ((m9 + 1), tkB pt i pd (m9 + 1), G37) _ _ _ ⟨⟨by omega, rfl, by
            simp only [tkB, itr_s]; rw [← tkB, ← hP]; unfold tkS
            first | (rw [prI_nat _ _ (by omega)] at h15; rw [← h15, hGx]; rfl) | (rw [if_neg (fun z => z.2 (by rw [← h28]; exact c31)), hGx]) | (rw [if_pos ⟨by rw [← h15]; rfl, by rw [← h28]; exact c31⟩, h37, hGx, patG_up hinj hi hti, patG_up hinj (by omega) p15])⟩, hG, lv_sub hl [2, 3, 4, 0] rfl⟩ (by first | omega | (simp only []; omega))

set_option maxHeartbeats 4000000 in
set_option maxRecDepth 100000 in
theorem c_ps_join (l : Launch) (Z : gZ) (G : gh) (sz : Nat) (x : Nat) {sh ma pa : Nat} {mad fk : Int32} (hx0 : G x = some (.inr (0, [.ref sh, .ref ma, .ref pa, .int mad, .int fk]))) {pt : Nat → Option Nat} {pd : Nat → Pat} (hpa : G pa = some (.inl (Z.2 3, 24, .inr (.inr (.inr (.inr pt)))))) (hpt : ∀ i a, i < 24 → pt i = some a → G a = some (.inr (3, pfs (pd i)))) (hinj : ptInj pt) : Met l y_ps_join (wd_ps_join :: Gall) ({ frames := 2, cells := 0, slots := 0, locals := 46 }) (va_Pc [.ref x] (gPw Z G sz)) (va_Qi (fun (r : Int32) (G9 : gh) => G9 = patG G pt (joinD pt pd 24) ∧ r = nI (cntP pt (joinD pt pd 24) 24)) (gW Z G sz) (gA G sz)) 0 0 (gA G sz) := by
  refine Met.ofW (cc := b_ps_join) (maxL := 3) (ret := (some .int)) (by decide) rfl ?_
  intro p e s m args below meth c s₁ B hml hv
  obtain ⟨rfl, hsz, hG, hE⟩ := hv
  subst hsz
  have hx := B.exec
  have hb := B.bytes
  have hr := B.returns
  have hlocks := B.notSynchronized
  have S : CallFix p m c b_ps_join 3 s _ Gall "PackSeeds" := ⟨hx, hb, hml, findClass_of_methodNamed B.named, fun w hw => atoms_spec (ws := wd_ps_join :: Gall) B.pre w (List.mem_cons_of_mem _ hw)⟩
  have hG : gS (gA G s.heap.size) s.heap Z.1 cls G s.heap [] := gS.start hG
  have hl := lv_entry ([.ref x]) (n := 3) (Nat.le_of_ble_eq_true rfl)
  rw [lg_entry_eq]
  generalize (lg_sl ([.ref x]) ++ List.replicate (3 - (lg_sl ([.ref x])).length) Slot.unset).toArray = ls at hl ⊢
  have hl : lv_has ls 3 [(0, .ref x)] := hl
  refine lv_iconst (v := nI 0) hx hb d_ps_join_0 (by decide) ?_
  refine lv_istore_n (lv' := [(1, .int (nI 0)), (0, .ref x)]) hx hb d_ps_join_1 rfl hl (by decide) rfl (fun ls hl => ?_)
  refine g_indH (V := Nat × (Nat → Pat) × gh) (fun (i, P, Gx) H locs ls => (i ≤ 24 ∧ P = joinD pt pd i ∧ Gx = patG G pt P) ∧ gS (gA G s.heap.size) s.heap Z.1 cls Gx H locs ∧ lv_has ls 3 [(0, .ref x), (1, .int (nI i))]) (fun (i, P, Gx) => 24 - i) ?_ (0, pd, G) _ ⟨⟨Nat.zero_le _, rfl, (patG_self hpt).symm⟩, hG, lv_sub hl [1, 0] rfl⟩
  intro v H locs ls hI ih2
  obtain ⟨i, P, Gx⟩ := v
  obtain ⟨⟨hi, hP, hGx⟩, hG, hl⟩ := hI
  have hx1 : Gx x = some (.inr (0, [.ref sh, .ref ma, .ref pa, .int mad, .int fk])) := by rw [hGx]; exact patG_keep hpt hx0 (by simp)
  have hpa1 : Gx pa = some (.inl (Z.2 3, 24, .inr (.inr (.inr (.inr pt))))) := by rw [hGx]; exact patG_keep hpt hpa (by simp)
  have hpt1 : ∀ i a, i < 24 → pt i = some a → Gx a = some (.inr (3, pfs (P i))) := fun i a hi hp => by rw [hGx]; exact patG_get hinj hi hp
  refine lv_iload_n hx hb d_ps_join_2 rfl (lv_at hl 1 rfl) ?_
  refine lv_aload_n hx hb d_ps_join_3 rfl (lv_at hl 0 rfl) ?_
  refine g_get S hE.1 hG.1 hx1 rfl in_ps 2 (by decide) tw_70 (fun _ h9 => h9) rfl d_ps_join_4 ?_
  refine g_alen S hE.1 hG.1 hpa1 3 rfl (v := nI 24) rfl d_ps_join_7 ?_
  refine g_ge (tgt := 33) hx hb d_ps_join_8 (by decide) (by omega) (by omega) (fun c8 => ?_) (fun c8 => ?_)
  · refine lv_aload_n hx hb d_ps_join_33 rfl (lv_at hl 0 rfl) ?_
    refine g_reti (g_runV (As := []) (rest := []) S lk_ps_72 k_ps_countPresent (c_ps_countPresent l Z Gx x hx1 hpa1 hpt1) ⟨rfl, rfl⟩ ⟨Nat.le_of_ble_eq_true rfl, Nat.le_of_ble_eq_true rfl⟩ (gPreV hG.1 hE hx1 rfl) rfl hl.1 rfl (Nat.le_of_ble_eq_true rfl) d_ps_join_34 ⟨Nat.le_of_ble_eq_true rfl, Nat.le_of_ble_eq_true rfl⟩) (fun r34 h34 => ?_)
    refine W.widen (k := 0) (n := 0) (Nat.le_of_ble_eq_true rfl) (Nat.le_of_ble_eq_true rfl) ?_
    exact (W.iret hx hb hr (fun t9 ht9 hW9 => ⟨⟨_, _, rfl, ⟨by rw [hGx, hP, show i = 24 by omega], by rw [h34, hP, show i = 24 by omega]⟩, by rw [ht9]; exact hG.1, hG.2.1⟩, hG.2.2.1.F ht9⟩) hG.2.2.1.2.2 d_ps_join_37)
  · refine lv_aload_n hx hb d_ps_join_11 rfl (lv_at hl 0 rfl) ?_
    refine lv_iload_n hx hb d_ps_join_12 rfl (lv_at hl 1 rfl) ?_
    refine g_retq (g_runV (As := [.int (nI i)]) (rest := []) S lk_ps_65 k_ps_presentOrNull (c_ps_presentOrNull l Z Gx x hx1 hpa1 hpt1 (nI i)) ⟨rfl, rfl⟩ ⟨Nat.le_of_ble_eq_true rfl, Nat.le_of_ble_eq_true rfl⟩ (gPreV hG.1 hE hx1 rfl) rfl hl.1 rfl (Nat.le_of_ble_eq_true rfl) d_ps_join_13 ⟨Nat.le_of_ble_eq_true rfl, Nat.le_of_ble_eq_true rfl⟩) (fun r13 h13 => ?_)
    cases r13 with
    | none =>
      refine lv_astore_nN (lv' := [(2, .null), (0, .ref x), (1, .int (nI i))]) hx hb d_ps_join_16 rfl hl (by decide) rfl (fun ls hl => ?_)
      refine lv_aload_nN hx hb d_ps_join_17 rfl (lv_at hl 0 rfl) ?_
      refine lv_ifnullN (tgt := 27) hx hb d_ps_join_18 (by decide) ?_
      refine lv_iinc (v := nI (i + 1)) (lv' := [(1, .int (nI (i + 1))), (2, .null), (0, .ref x)]) hx hb d_ps_join_27 hl (k := 2) rfl (show nI i + 1 = _ from nI_1 i) (by decide) rfl (fun ls hl => ?_)
      refine lv_goto (tgt := 2) hx hb d_ps_join_30 (by decide) ?_
      exact ih2 ((i + 1), joinD pt pd (i + 1), Gx) _ _ _ ⟨⟨by omega, rfl, by
          simp only [joinD, itr_s]; rw [← joinD, ← hP]
          first | (rw [prI_nat _ _ (by omega)] at h13; rw [← h13, hGx]; rfl) | (rw [← h13, h24, hGx, patG_patG]; rfl)⟩, hG, lv_sub hl [2, 0] rfl⟩ (by first | omega | (simp only []; omega))
    | some a13 =>
      rw [prI_nat _ _ (by omega)] at h13
      obtain ⟨p13, g13⟩ := prN_some h13
      refine lv_astore_n (lv' := [(2, .ref a13), (0, .ref x), (1, .int (nI i))]) hx hb d_ps_join_16 rfl hl (by decide) rfl (fun ls hl => ?_)
      refine lv_aload_n hx hb d_ps_join_17 rfl (lv_at hl 0 rfl) ?_
      refine lv_ifnull hx hb d_ps_join_18 ?_
      refine lv_aload_n hx hb d_ps_join_21 rfl (lv_at hl 1 rfl) ?_
      refine lv_aload_n hx hb d_ps_join_22 rfl (lv_at hl 0 rfl) ?_
      refine lv_iload_n hx hb d_ps_join_23 rfl (lv_at hl 2 rfl) ?_
      refine g_wv hG (g_runV (As := [.ref a13, .int (nI i)]) (rest := []) S lk_ps_68 k_ps_takeFromBehind (c_ps_takeFromBehind l Z Gx H.size x hx1 hpa1 hpt1 hinj a13 i (by omega) p13) ⟨rfl, rfl⟩ ⟨(Nat.le_of_ble_eq_true rfl), (Nat.le_of_ble_eq_true rfl)⟩ (gPwV hG.1 hE hx1 rfl) rfl hl.1 rfl (Nat.le_of_ble_eq_true rfl) d_ps_join_24 ⟨(Nat.le_of_ble_eq_true rfl), (Nat.le_of_ble_eq_true rfl)⟩) (fun G24 H locs h24 hG => ?_)
      refine lv_iinc (v := nI (i + 1)) (lv' := [(1, .int (nI (i + 1))), (2, .ref a13), (0, .ref x)]) hx hb d_ps_join_27 hl (k := 2) rfl (show nI i + 1 = _ from nI_1 i) (by decide) rfl (fun ls hl => ?_)
      refine lv_goto (tgt := 2) hx hb d_ps_join_30 (by decide) ?_
      exact ih2 ((i + 1), joinD pt pd (i + 1), G24) _ _ _ ⟨⟨by omega, rfl, by
          simp only [joinD, itr_s]; rw [← joinD, ← hP]
          first | (rw [prI_nat _ _ (by omega)] at h13; rw [← h13, hGx]; rfl) | (rw [← h13, h24, hGx, patG_patG]; rfl)⟩, hG, lv_sub hl [2, 0] rfl⟩ (by first | omega | (simp only []; omega))

set_option maxHeartbeats 4000000 in
set_option maxRecDepth 100000 in
theorem c_ps_drop (l : Launch) (Z : gZ) (G : gh) (sz : Nat) (x : Nat) {sh ma pa : Nat} {mad fk : Int32} (hx0 : G x = some (.inr (0, [.ref sh, .ref ma, .ref pa, .int mad, .int fk]))) {pt : Nat → Option Nat} {pd : Nat → Pat} (hpa : G pa = some (.inl (Z.2 3, 24, .inr (.inr (.inr (.inr pt)))))) (hpt : ∀ i a, i < 24 → pt i = some a → G a = some (.inr (3, pfs (pd i)))) (hinj : ptInj pt) : Met l y_ps_drop (wd_ps_drop :: Gall) ({ frames := 2, cells := 0, slots := 0, locals := 46 }) (va_Pc [.ref x] (gPw Z G sz)) (va_Qi (fun (r : Int32) (G9 : gh) => G9 = patG G pt (drS pt 24 pd) ∧ r = nI (cntP pt (drS pt 24 pd) 24)) (gW Z G sz) (gA G sz)) 0 0 (gA G sz) := by
  refine Met.ofW (cc := b_ps_drop) (maxL := 3) (ret := (some .int)) (by decide) rfl ?_
  intro p e s m args below meth c s₁ B hml hv
  obtain ⟨rfl, hsz, hG, hE⟩ := hv
  subst hsz
  have hx := B.exec
  have hb := B.bytes
  have hr := B.returns
  have hlocks := B.notSynchronized
  have S : CallFix p m c b_ps_drop 3 s _ Gall "PackSeeds" := ⟨hx, hb, hml, findClass_of_methodNamed B.named, fun w hw => atoms_spec (ws := wd_ps_drop :: Gall) B.pre w (List.mem_cons_of_mem _ hw)⟩
  have hG : gS (gA G s.heap.size) s.heap Z.1 cls G s.heap [] := gS.start hG
  have hl := lv_entry ([.ref x]) (n := 3) (Nat.le_of_ble_eq_true rfl)
  rw [lg_entry_eq]
  generalize (lg_sl ([.ref x]) ++ List.replicate (3 - (lg_sl ([.ref x])).length) Slot.unset).toArray = ls at hl ⊢
  have hl : lv_has ls 3 [(0, .ref x)] := hl
  refine lv_aload_n hx hb d_ps_drop_0 rfl (lv_at hl 0 rfl) ?_
  refine g_get S hE.1 hG.1 hx0 rfl in_ps 2 (by decide) tw_70 (fun _ h9 => h9) rfl d_ps_drop_1 ?_
  refine g_alen S hE.1 hG.1 hpa 3 rfl (v := nI 24) rfl d_ps_drop_4 ?_
  refine lv_iconst (v := nI 1) hx hb d_ps_drop_5 (by decide) ?_
  refine lv_isub hx hb d_ps_drop_6 ?_
  refine g_topi (y := nI 23) rfl ?_
  refine lv_istore_n (lv' := [(1, .int (nI 23)), (0, .ref x)]) hx hb d_ps_drop_7 rfl hl (by decide) rfl (fun ls hl => ?_)
  refine g_indH (V := Nat × (Nat → Pat) × gh) (fun (j, P, Gx) H locs ls => (j ≤ 24 ∧ drS pt 24 pd = drS pt j P ∧ Gx = patG G pt P) ∧ gS (gA G s.heap.size) s.heap Z.1 cls Gx H locs ∧ lv_has ls 3 [(0, .ref x), (1, .int (dn j))]) (fun (j, P, Gx) => j) ?_ (24, pd, G) _ ⟨⟨Nat.le_refl _, rfl, (patG_self hpt).symm⟩, hG, lv_sub hl [1, 0] rfl⟩
  intro v H locs ls hI ih8
  obtain ⟨j, P, Gx⟩ := v
  obtain ⟨⟨hj, hP, hGx⟩, hG, hl⟩ := hI
  have hx1 : Gx x = some (.inr (0, [.ref sh, .ref ma, .ref pa, .int mad, .int fk])) := by rw [hGx]; exact patG_keep hpt hx0 (by simp)
  have hpa1 : Gx pa = some (.inl (Z.2 3, 24, .inr (.inr (.inr (.inr pt))))) := by rw [hGx]; exact patG_keep hpt hpa (by simp)
  have hpt1 : ∀ i a, i < 24 → pt i = some a → Gx a = some (.inr (3, pfs (P i))) := fun i a hi hp => by rw [hGx]; exact patG_get hinj hi hp
  cases j with
  | zero =>
    have hl : lv_has ls 3 [(0, .ref x), (1, .int (-1))] := hl
    refine lv_iload_n hx hb d_ps_drop_8 rfl (lv_at hl 1 rfl) ?_
    refine lv_if_lt (tgt := 48) hx hb d_ps_drop_9 (by decide) (fun c9 => ?_) (fun c9 => absurd c9 (not_not_intro (by decide)))
    refine lv_aload_n hx hb d_ps_drop_48 rfl (lv_at hl 0 rfl) ?_
    refine g_reti (g_runV (As := []) (rest := []) S lk_ps_72 k_ps_countPresent (c_ps_countPresent l Z Gx x hx1 hpa1 hpt1) ⟨rfl, rfl⟩ ⟨Nat.le_of_ble_eq_true rfl, Nat.le_of_ble_eq_true rfl⟩ (gPreV hG.1 hE hx1 rfl) rfl hl.1 rfl (Nat.le_of_ble_eq_true rfl) d_ps_drop_49 ⟨Nat.le_of_ble_eq_true rfl, Nat.le_of_ble_eq_true rfl⟩) (fun r49 h49 => ?_)
    refine W.widen (k := 0) (n := 0) (Nat.le_of_ble_eq_true rfl) (Nat.le_of_ble_eq_true rfl) ?_
    exact (W.iret hx hb hr (fun t9 ht9 hW9 => ⟨⟨_, _, rfl, ⟨by rw [hGx, hP]; rfl, by rw [h49, hP]; rfl⟩, by rw [ht9]; exact hG.1, hG.2.1⟩, hG.2.2.1.F ht9⟩) hG.2.2.1.2.2 d_ps_drop_52)
  | succ k =>
    have hl : lv_has ls 3 [(0, .ref x), (1, .int (nI k))] := hl
    refine lv_iload_n hx hb d_ps_drop_8 rfl (lv_at hl 1 rfl) ?_
    refine lv_if_lt (tgt := 48) hx hb d_ps_drop_9 (by decide) (fun c9 => absurd c9 (nI_pos (by omega))) (fun c9 => ?_)
    refine lv_aload_n hx hb d_ps_drop_12 rfl (lv_at hl 0 rfl) ?_
    refine lv_iload_n hx hb d_ps_drop_13 rfl (lv_at hl 1 rfl) ?_
    refine g_retq (g_runV (As := [.int (nI k)]) (rest := []) S lk_ps_65 k_ps_presentOrNull (c_ps_presentOrNull l Z Gx x hx1 hpa1 hpt1 (nI k)) ⟨rfl, rfl⟩ ⟨Nat.le_of_ble_eq_true rfl, Nat.le_of_ble_eq_true rfl⟩ (gPreV hG.1 hE hx1 rfl) rfl hl.1 rfl (Nat.le_of_ble_eq_true rfl) d_ps_drop_14 ⟨Nat.le_of_ble_eq_true rfl, Nat.le_of_ble_eq_true rfl⟩) (fun r14 h14 => ?_)
    cases r14 with
    | none =>
      refine lv_astore_nN (lv' := [(2, .null), (0, .ref x), (1, .int (nI k))]) hx hb d_ps_drop_17 rfl hl (by decide) rfl (fun ls hl => ?_)
      refine lv_aload_nN hx hb d_ps_drop_18 rfl (lv_at hl 0 rfl) ?_
      refine lv_ifnullN (tgt := 42) hx hb d_ps_drop_19 (by decide) ?_
      refine lv_iinc (v := dn k) (lv' := [(1, .int (dn k)), (2, .null), (0, .ref x)]) hx hb d_ps_drop_42 hl (k := 2) rfl (dn_pred k) (by decide) rfl (fun ls hl => ?_)
      refine lv_goto (tgt := 8) hx hb d_ps_drop_45 (by decide) ?_
      exact ih8 (k, (if (prN pt P k).isSome ∧ pfa (P k) &&& (orF pt P (nI k) 24 ^^^ (-1)) = 0 then va_up P k (qgn (P k) 1) else P), Gx) _ _ _ ⟨⟨by omega, by rw [hP]; rfl, by
          first | (rw [prI_nat _ _ (by omega)] at h14; rw [← h14, hGx]; rfl) | (rw [if_neg (fun z => c34 (by rw [h28]; exact z.2)), hGx]) | (rw [if_pos ⟨by rw [← h14]; rfl, by rw [← h28]; exact c34⟩, ← eG39, hGx]; exact patG_up hinj (by omega) p14 (qgn (P k) 1))⟩, hG, lv_sub hl [2, 0] rfl⟩ (by first | omega | (simp only []; omega))
    | some a14 =>
      rw [prI_nat _ _ (by omega)] at h14
      obtain ⟨p14, g14⟩ := prN_some h14
      refine lv_astore_n (lv' := [(2, .ref a14), (0, .ref x), (1, .int (nI k))]) hx hb d_ps_drop_17 rfl hl (by decide) rfl (fun ls hl => ?_)
      refine lv_aload_n hx hb d_ps_drop_18 rfl (lv_at hl 0 rfl) ?_
      refine lv_ifnull hx hb d_ps_drop_19 ?_
      refine lv_aload_n hx hb d_ps_drop_22 rfl (lv_at hl 0 rfl) ?_
      refine g_getN S hE.1 hG.1 (hpt1 k a14 (by omega) p14) rfl in_pt 3 (by decide) (hE.2 _ nw_21) (fun _ h9 => h9) rfl d_ps_drop_23 ?_
      refine lv_aload_n hx hb d_ps_drop_26 rfl (lv_at hl 1 rfl) ?_
      refine lv_iload_n hx hb d_ps_drop_27 rfl (lv_at hl 2 rfl) ?_
      refine g_reti (g_runV (As := [.int (nI k)]) (rest := [.int (pfa (P k))]) S lk_ps_125 k_ps_faultsOfAllBut (c_ps_faultsOfAllBut l Z Gx x hx1 hpa1 hpt1 (nI k)) ⟨rfl, rfl⟩ ⟨Nat.le_of_ble_eq_true rfl, Nat.le_of_ble_eq_true rfl⟩ (gPreV hG.1 hE hx1 rfl) rfl hl.1 rfl (Nat.le_of_ble_eq_true rfl) d_ps_drop_28 ⟨Nat.le_of_ble_eq_true rfl, Nat.le_of_ble_eq_true rfl⟩) (fun r28 h28 => ?_)
      refine lv_iconst (v := (-1)) hx hb d_ps_drop_31 (by decide) ?_
      refine lv_ixor hx hb d_ps_drop_32 ?_
      refine lv_iand hx hb d_ps_drop_33 ?_
      refine lv_if_ne (tgt := 42) hx hb d_ps_drop_34 (by decide) (fun c34 => ?_) (fun c34 => ?_)
      · refine lv_iinc (v := dn k) (lv' := [(1, .int (dn k)), (2, .ref a14), (0, .ref x)]) hx hb d_ps_drop_42 hl (k := 2) rfl (dn_pred k) (by decide) rfl (fun ls hl => ?_)
        refine lv_goto (tgt := 8) hx hb d_ps_drop_45 (by decide) ?_
        exact ih8 (k, (if (prN pt P k).isSome ∧ pfa (P k) &&& (orF pt P (nI k) 24 ^^^ (-1)) = 0 then va_up P k (qgn (P k) 1) else P), Gx) _ _ _ ⟨⟨by omega, by rw [hP]; rfl, by
            first | (rw [prI_nat _ _ (by omega)] at h14; rw [← h14, hGx]; rfl) | (rw [if_neg (fun z => c34 (by rw [h28]; exact z.2)), hGx]) | (rw [if_pos ⟨by rw [← h14]; rfl, by rw [← h28]; exact c34⟩, ← eG39, hGx]; exact patG_up hinj (by omega) p14 (qgn (P k) 1))⟩, hG, lv_sub hl [2, 0] rfl⟩ (by first | omega | (simp only []; omega))
      · refine lv_aload_n hx hb d_ps_drop_37 rfl (lv_at hl 0 rfl) ?_
        refine lv_iconst (v := 1) hx hb d_ps_drop_38 (by decide) ?_
        refine g_putN S hE.1 hG (hpt1 k a14 (by omega) p14) rfl in_pt ty_pt tyok_pt nm_pt 5 (by decide) (hE.2 _ nw_23) (fun _ h9 => h9) rfl (ty := .boolean) (by decide +kernel) rfl rfl (Nat.le_of_ble_eq_true rfl) d_ps_drop_39 (fun H locs hG => ?_)
        have hG : gS (gA G s.heap.size) s.heap Z.1 cls (gup Gx a14 (.inr (3, [.int (pca (P k)), .int (pva (P k)), .int (pmk (P k)), .int (pfa (P k)), .int (psd (P k)), .int 1]))) H locs := hG
        generalize eG39 : gup Gx a14 (.inr (3, [.int (pca (P k)), .int (pva (P k)), .int (pmk (P k)), .int (pfa (P k)), .int (psd (P k)), .int 1])) = G39 at hG
        have f39_x : G39 x = some (.inr (0, [.ref sh, .ref ma, .ref pa, .int mad, .int fk])) := by rw [← eG39]; exact gup_keep (hpt1 k a14 (by omega) p14) hx1 (by simp)
        have f39_pa : G39 pa = some (.inl (Z.2 3, 24, .inr (.inr (.inr (.inr pt))))) := by rw [← eG39]; exact gup_keep (hpt1 k a14 (by omega) p14) hpa1 (by simp)
        have f39 : G39 a14 = some (.inr (3, [.int (pca (P k)), .int (pva (P k)), .int (pmk (P k)), .int (pfa (P k)), .int (psd (P k)), .int 1])) := by rw [← eG39]; exact gup_self _ _ _
        refine lv_iinc (v := dn k) (lv' := [(1, .int (dn k)), (2, .ref a14), (0, .ref x)]) hx hb d_ps_drop_42 hl (k := 2) rfl (dn_pred k) (by decide) rfl (fun ls hl => ?_)
        refine lv_goto (tgt := 8) hx hb d_ps_drop_45 (by decide) ?_
        exact ih8 (k, (if (prN pt P k).isSome ∧ pfa (P k) &&& (orF pt P (nI k) 24 ^^^ (-1)) = 0 then va_up P k (qgn (P k) 1) else P), G39) _ _ _ ⟨⟨by omega, by rw [hP]; rfl, by
            first | (rw [prI_nat _ _ (by omega)] at h14; rw [← h14, hGx]; rfl) | (rw [if_neg (fun z => c34 (by rw [h28]; exact z.2)), hGx]) | (rw [if_pos ⟨by rw [← h14]; rfl, by rw [← h28]; exact c34⟩, ← eG39, hGx]; exact patG_up hinj (by omega) p14 (qgn (P k) 1))⟩, hG, lv_sub hl [2, 0] rfl⟩ (by first | omega | (simp only []; omega))
