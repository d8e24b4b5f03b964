set_option maxHeartbeats 4000000 in
set_option maxRecDepth 100000 in
theorem c_ps_presentOrNull (l : Launch) (Z : gZ) (G : gh) (x : Nat) {sh ma pa : Nat} {mad fk : Int32} (hx0 : G x = some (.inr (0, [.ref sh, .ref ma, .ref pa, .int mad, .int fk]))) {pt : Nat → Option Nat} {pd : Nat → Pat} (hpa : G pa = some (.inl (Z.2 3, 24, .inr (.inr (.inr (.inr pt)))))) (hpt : ∀ i a, i < 24 → pt i = some a → G a = some (.inr (3, pfs (pd i)))) (n : Int32) : Met l y_ps_presentOrNull (wd_ps_presentOrNull :: Gall) ({ frames := 0, cells := 0, slots := 0, locals := 0 }) (va_Pc [.ref x, .int n] (gPure Z G)) (va_Sq (fun r : Option Nat => r = prI pt pd n)) 0 0 (fun _ => False) := by
  refine Met.ofW (cc := b_ps_presentOrNull) (maxL := 3) (ret := (some (.object "PackSeeds$Pattern"))) (by decide) rfl ?_
  intro p e s m args below meth c s₁ B hml hv
  obtain ⟨rfl, hG, hE⟩ := hv
  have hx := B.exec
  have hb := B.bytes
  have hr := B.returns
  have hlocks := B.notSynchronized
  have S : CallFix p m c b_ps_presentOrNull 3 s _ Gall "PackSeeds" := ⟨hx, hb, hml, findClass_of_methodNamed B.named, fun w hw => atoms_spec (ws := wd_ps_presentOrNull :: Gall) B.pre w (List.mem_cons_of_mem _ hw)⟩
  have hl := lv_entry ([.ref x, .int n]) (n := 3) (Nat.le_of_ble_eq_true rfl)
  rw [lg_entry_eq]
  generalize (lg_sl ([.ref x, .int n]) ++ List.replicate (3 - (lg_sl ([.ref x, .int n])).length) Slot.unset).toArray = ls at hl ⊢
  have hl : lv_has ls 3 [(0, .ref x), (1, .int n)] := hl
  refine lv_iload_n hx hb d_ps_presentOrNull_0 rfl (lv_at hl 1 rfl) ?_
  refine lv_if_lt (tgt := 13) hx hb d_ps_presentOrNull_1 (by decide) (fun c1 => ?_) (fun c1 => ?_)
  · refine lv_null hx hb d_ps_presentOrNull_13 ?_
    exact W.aret hx hb hr (Or.inl ⟨_, rfl⟩) (va_rf_or (none)) (fun t9 ht9 hW9 => ⟨none, rfl, (by simp [prI, *]), ht9⟩) (fun _ h => nomatch h) d_ps_presentOrNull_14
  · refine lv_iload_n hx hb d_ps_presentOrNull_4 rfl (lv_at hl 1 rfl) ?_
    refine lv_aload_n hx hb d_ps_presentOrNull_5 rfl (lv_at hl 0 rfl) ?_
    refine g_get S hE.1 hG hx0 rfl in_ps 2 (by decide) tw_70 (fun _ h9 => h9) rfl d_ps_presentOrNull_6 ?_
    refine g_alen S hE.1 hG hpa 3 rfl (v := nI 24) rfl d_ps_presentOrNull_9 ?_
    refine lv_icmp_lt (tgt := 15) hx hb d_ps_presentOrNull_10 (by decide) (fun c10 => ?_) (fun c10 => ?_)
    · obtain ⟨j, hj, hnj⟩ : ∃ j : Nat, j < 24 ∧ n = nI j := by
        rcases pk_ix n (n := 24) (by omega) with h9 | h9 | h9
        · exact absurd h9 c1
        · exact absurd c10 (by rw [Int32.lt_iff_toInt_lt, Int32.le_iff_toInt_le] at *; omega)
        · exact h9
      subst hnj
      refine lv_aload_n hx hb d_ps_presentOrNull_15 rfl (lv_at hl 0 rfl) ?_
      refine g_get S hE.1 hG hx0 rfl in_ps 2 (by decide) tw_70 (fun _ h9 => h9) rfl d_ps_presentOrNull_16 ?_
      refine lv_iload_n hx hb d_ps_presentOrNull_19 rfl (lv_at hl 1 rfl) ?_
      refine g_aald S hE.1 hG hpa 3 rfl (vp_in_nI (by omega) (by omega)) d_ps_presentOrNull_20 ?_
      rw [nI_clamp (show j < 2 ^ 31 by omega)]
      cases q21 : pt j with
      | none =>
        refine lv_astore_nN (lv' := [(2, .null), (0, .ref x), (1, .int (nI j))]) hx hb d_ps_presentOrNull_21 rfl hl (by decide) rfl (fun ls hl => ?_)
        refine lv_aload_nN hx hb d_ps_presentOrNull_22 rfl (lv_at hl 0 rfl) ?_
        refine lv_ifnullN (tgt := 33) hx hb d_ps_presentOrNull_23 (by decide) ?_
        refine lv_null hx hb d_ps_presentOrNull_33 ?_
        refine lv_goto (tgt := 38) hx hb d_ps_presentOrNull_34 (by decide) ?_
        exact W.aret hx hb hr (Or.inl ⟨_, rfl⟩) (va_rf_or (none)) (fun t9 ht9 hW9 => ⟨none, rfl, (by rw [prI_nat _ _ hj]; simp_all [prN]), ht9⟩) (fun _ h => nomatch h) d_ps_presentOrNull_38
      | some a21 =>
        refine lv_astore_n (lv' := [(2, .ref a21), (0, .ref x), (1, .int (nI j))]) hx hb d_ps_presentOrNull_21 rfl hl (by decide) rfl (fun ls hl => ?_)
        refine lv_aload_n hx hb d_ps_presentOrNull_22 rfl (lv_at hl 0 rfl) ?_
        refine lv_ifnull hx hb d_ps_presentOrNull_23 ?_
        refine lv_aload_n hx hb d_ps_presentOrNull_26 rfl (lv_at hl 0 rfl) ?_
        refine g_getN S hE.1 hG (hpt j a21 hj q21) rfl in_pt 5 (by decide) (hE.2 _ nw_23) (fun _ h9 => h9) rfl d_ps_presentOrNull_27 ?_
        refine lv_if_eq (tgt := 37) hx hb d_ps_presentOrNull_30 (by decide) (fun c30 => ?_) (fun c30 => ?_)
        · refine lv_aload_n hx hb d_ps_presentOrNull_37 rfl (lv_at hl 0 rfl) ?_
          exact W.aret hx hb hr (Or.inl ⟨_, rfl⟩) (va_rf_or (some a21)) (fun t9 ht9 hW9 => ⟨some a21, rfl, (by rw [prI_nat _ _ hj]; simp_all [prN]), ht9⟩) (fun _ h => nomatch h) d_ps_presentOrNull_38
        · refine lv_null hx hb d_ps_presentOrNull_33 ?_
          refine lv_goto (tgt := 38) hx hb d_ps_presentOrNull_34 (by decide) ?_
          exact W.aret hx hb hr (Or.inl ⟨_, rfl⟩) (va_rf_or (none)) (fun t9 ht9 hW9 => ⟨none, rfl, (by rw [prI_nat _ _ hj]; simp_all [prN]), ht9⟩) (fun _ h => nomatch h) d_ps_presentOrNull_38
    · refine lv_null hx hb d_ps_presentOrNull_13 ?_
      exact W.aret hx hb hr (Or.inl ⟨_, rfl⟩) (va_rf_or (none)) (fun t9 ht9 hW9 => ⟨none, rfl, (by simp [prI, *]), ht9⟩) (fun _ h => nomatch h) d_ps_presentOrNull_14

set_option maxHeartbeats 4000000 in
set_option maxRecDepth 100000 in
theorem c_ps_countPresent (l : Launch) (Z : gZ) (G : gh) (x : Nat) {sh ma pa : Nat} {mad fk : Int32} (hx0 : G x = some (.inr (0, [.ref sh, .ref ma, .ref pa, .int mad, .int fk]))) {pt : Nat → Option Nat} {pd : Nat → Pat} (hpa : G pa = some (.inl (Z.2 3, 24, .inr (.inr (.inr (.inr pt)))))) (hpt : ∀ i a, i < 24 → pt i = some a → G a = some (.inr (3, pfs (pd i)))) : Met l y_ps_countPresent (wd_ps_countPresent :: Gall) ({ frames := 1, cells := 0, slots := 0, locals := 22 }) (va_Pc [.ref x] (gPure Z G)) (vp_Si (fun r : Int32 => r = nI (cntP pt pd 24))) 0 0 (fun _ => False) := by
  refine Met.ofW (cc := b_ps_countPresent) (maxL := 3) (ret := (some .int)) (by decide) rfl ?_
  intro p e s m args below meth c s₁ B hml hv
  obtain ⟨rfl, hG, hE⟩ := hv
  have hx := B.exec
  have hb := B.bytes
  have hr := B.returns
  have hlocks := B.notSynchronized
  have S : CallFix p m c b_ps_countPresent 3 s _ Gall "PackSeeds" := ⟨hx, hb, hml, findClass_of_methodNamed B.named, fun w hw => atoms_spec (ws := wd_ps_countPresent :: Gall) B.pre w (List.mem_cons_of_mem _ hw)⟩
  have hl := lv_entry ([.ref x]) (n := 3) (Nat.le_of_ble_eq_true rfl)
  rw [lg_entry_eq]
  generalize (lg_sl ([.ref x]) ++ List.replicate (3 - (lg_sl ([.ref x])).length) Slot.unset).toArray = ls at hl ⊢
  have hl : lv_has ls 3 [(0, .ref x)] := hl
  refine lv_iconst (v := nI 0) hx hb d_ps_countPresent_0 (by decide) ?_
  refine lv_istore_n (lv' := [(1, .int (nI 0)), (0, .ref x)]) hx hb d_ps_countPresent_1 rfl hl (by decide) rfl (fun ls hl => ?_)
  refine lv_iconst (v := nI 0) hx hb d_ps_countPresent_2 (by decide) ?_
  refine lv_istore_n (lv' := [(2, .int (nI 0)), (1, .int (nI 0)), (0, .ref x)]) hx hb d_ps_countPresent_3 rfl hl (by decide) rfl (fun ls hl => ?_)
  refine g_ind (V := Nat × Nat) (fun (i, n) ls => (i ≤ 24 ∧ n = cntP pt pd i) ∧ lv_has ls 3 [(0, .ref x), (1, .int (nI n)), (2, .int (nI i))]) (fun (i, n) => 24 - i) ?_ (0, 0) _ ⟨⟨Nat.zero_le _, rfl⟩, lv_sub hl [2, 1, 0] rfl⟩
  intro v ls hI ih4
  obtain ⟨i, n⟩ := v
  obtain ⟨⟨hi, hn⟩, hl⟩ := hI
  refine lv_iload_n hx hb d_ps_countPresent_4 rfl (lv_at hl 2 rfl) ?_
  refine lv_aload_n hx hb d_ps_countPresent_5 rfl (lv_at hl 0 rfl) ?_
  refine g_get S hE.1 hG hx0 rfl in_ps 2 (by decide) tw_70 (fun _ h9 => h9) rfl d_ps_countPresent_6 ?_
  refine g_alen S hE.1 hG hpa 3 rfl (v := nI 24) rfl d_ps_countPresent_9 ?_
  refine g_ge (tgt := 30) hx hb d_ps_countPresent_10 (by decide) (by omega) (by omega) (fun c10 => ?_) (fun c10 => ?_)
  · refine lv_iload_n hx hb d_ps_countPresent_30 rfl (lv_at hl 1 rfl) ?_
    exact W.iret hx hb hr (fun t9 ht9 hW9 => ⟨_, rfl, (by rw [hn, show i = 24 by omega]), ht9⟩) (fun _ h => nomatch h) d_ps_countPresent_31
  · refine lv_aload_n hx hb d_ps_countPresent_13 rfl (lv_at hl 0 rfl) ?_
    refine lv_iload_n hx hb d_ps_countPresent_14 rfl (lv_at hl 2 rfl) ?_
    refine g_retq (g_runV (As := [.int (nI i)]) (rest := []) S lk_ps_65 k_ps_presentOrNull (c_ps_presentOrNull l Z G x hx0 hpa hpt (nI i)) ⟨rfl, rfl⟩ ⟨Nat.le_of_ble_eq_true rfl, Nat.le_of_ble_eq_true rfl⟩ (gPreV hG hE hx0 rfl) rfl hl.1 rfl (Nat.le_of_ble_eq_true rfl) d_ps_countPresent_15 ⟨Nat.le_of_ble_eq_true rfl, Nat.le_of_ble_eq_true rfl⟩) (fun r15 h15 => ?_)
    cases r15 with
    | none =>
      refine lv_ifnullN (tgt := 24) hx hb d_ps_countPresent_18 (by decide) ?_
      refine lv_iinc (v := nI (i + 1)) (lv' := [(2, .int (nI (i + 1))), (0, .ref x), (1, .int (nI n))]) hx hb d_ps_countPresent_24 hl (k := 2) rfl (show nI i + 1 = _ from nI_1 i) (by decide) rfl (fun ls hl => ?_)
      refine lv_goto (tgt := 4) hx hb d_ps_countPresent_27 (by decide) ?_
      exact ih4 ((i + 1), n) _ ⟨⟨by omega, by subst hn; simp only [cntP, itr_s]; first | (rw [prI_nat _ _ (by omega)] at h15; simp [← h15]) | simp [← h15]⟩, lv_sub hl [1, 2, 0] rfl⟩ (by first | omega | (simp only []; omega))
    | some a15 =>
      rw [prI_nat _ _ (by omega)] at h15
      obtain ⟨p15, g15⟩ := prN_some h15
      refine lv_ifnull hx hb d_ps_countPresent_18 ?_
      refine lv_iinc (v := nI (n + 1)) (lv' := [(1, .int (nI (n + 1))), (0, .ref x), (2, .int (nI i))]) hx hb d_ps_countPresent_21 hl (k := 1) rfl (show nI n + 1 = _ from nI_1 n) (by decide) rfl (fun ls hl => ?_)
      refine lv_iinc (v := nI (i + 1)) (lv' := [(2, .int (nI (i + 1))), (1, .int (nI (n + 1))), (0, .ref x)]) hx hb d_ps_countPresent_24 hl (k := 2) rfl (show nI i + 1 = _ from nI_1 i) (by decide) rfl (fun ls hl => ?_)
      refine lv_goto (tgt := 4) hx hb d_ps_countPresent_27 (by decide) ?_
      exact ih4 ((i + 1), (n + 1)) _ ⟨⟨by omega, by subst hn; simp only [cntP, itr_s]; first | (rw [prI_nat _ _ (by omega)] at h15; simp [← h15]) | simp [← h15]⟩, lv_sub hl [2, 1, 0] rfl⟩ (by first | omega | (simp only []; omega))

set_option maxHeartbeats 4000000 in
set_option maxRecDepth 100000 in
theorem c_ps_countSeeded (l : Launch) (Z : gZ) (G : gh) (x : Nat) {sh ma pa : Nat} {mad fk : Int32} (hx0 : G x = some (.inr (0, [.ref sh, .ref ma, .ref pa, .int mad, .int fk]))) {pt : Nat → Option Nat} {pd : Nat → Pat} (hpa : G pa = some (.inl (Z.2 3, 24, .inr (.inr (.inr (.inr pt)))))) (hpt : ∀ i a, i < 24 → pt i = some a → G a = some (.inr (3, pfs (pd i)))) : Met l y_ps_countSeeded (wd_ps_countSeeded :: Gall) ({ frames := 1, cells := 0, slots := 0, locals := 22 }) (va_Pc [.ref x] (gPure Z G)) (vp_Si (fun r : Int32 => r = nI (cntS pt pd 24))) 0 0 (fun _ => False) := by
  refine Met.ofW (cc := b_ps_countSeeded) (maxL := 4) (ret := (some .int)) (by decide) rfl ?_
  intro p e s m args below meth c s₁ B hml hv
  obtain ⟨rfl, hG, hE⟩ := hv
  have hx := B.exec
  have hb := B.bytes
  have hr := B.returns
  have hlocks := B.notSynchronized
  have S : CallFix p m c b_ps_countSeeded 4 s _ Gall "PackSeeds" := ⟨hx, hb, hml, findClass_of_methodNamed B.named, fun w hw => atoms_spec (ws := wd_ps_countSeeded :: Gall) B.pre w (List.mem_cons_of_mem _ hw)⟩
  have hl := lv_entry ([.ref x]) (n := 4) (Nat.le_of_ble_eq_true rfl)
  rw [lg_entry_eq]
  generalize (lg_sl ([.ref x]) ++ List.replicate (4 - (lg_sl ([.ref x])).length) Slot.unset).toArray = ls at hl ⊢
  have hl : lv_has ls 4 [(0, .ref x)] := hl
  refine lv_iconst (v := nI 0) hx hb d_ps_countSeeded_0 (by decide) ?_
  refine lv_istore_n (lv' := [(1, .int (nI 0)), (0, .ref x)]) hx hb d_ps_countSeeded_1 rfl hl (by decide) rfl (fun ls hl => ?_)
  refine lv_iconst (v := nI 0) hx hb d_ps_countSeeded_2 (by decide) ?_
  refine lv_istore_n (lv' := [(2, .int (nI 0)), (1, .int (nI 0)), (0, .ref x)]) hx hb d_ps_countSeeded_3 rfl hl (by decide) rfl (fun ls hl => ?_)
  refine g_ind (V := Nat × Nat) (fun (i, n) ls => (i ≤ 24 ∧ n = cntS pt pd i) ∧ lv_has ls 4 [(0, .ref x), (1, .int (nI n)), (2, .int (nI i))]) (fun (i, n) => 24 - i) ?_ (0, 0) _ ⟨⟨Nat.zero_le _, rfl⟩, lv_sub hl [2, 1, 0] rfl⟩
  intro v ls hI ih4
  obtain ⟨i, n⟩ := v
  obtain ⟨⟨hi, hn⟩, hl⟩ := hI
  refine lv_iload_n hx hb d_ps_countSeeded_4 rfl (lv_at hl 2 rfl) ?_
  refine lv_aload_n hx hb d_ps_countSeeded_5 rfl (lv_at hl 0 rfl) ?_
  refine g_get S hE.1 hG hx0 rfl in_ps 2 (by decide) tw_70 (fun _ h9 => h9) rfl d_ps_countSeeded_6 ?_
  refine g_alen S hE.1 hG hpa 3 rfl (v := nI 24) rfl d_ps_countSeeded_9 ?_
  refine g_ge (tgt := 40) hx hb d_ps_countSeeded_10 (by decide) (by omega) (by omega) (fun c10 => ?_) (fun c10 => ?_)
  · refine lv_iload_n hx hb d_ps_countSeeded_40 rfl (lv_at hl 1 rfl) ?_
    exact W.iret hx hb hr (fun t9 ht9 hW9 => ⟨_, rfl, (by rw [hn, show i = 24 by omega]), ht9⟩) (fun _ h => nomatch h) d_ps_countSeeded_41
  · refine lv_aload_n hx hb d_ps_countSeeded_13 rfl (lv_at hl 0 rfl) ?_
    refine lv_iload_n hx hb d_ps_countSeeded_14 rfl (lv_at hl 2 rfl) ?_
    refine g_retq (g_runV (As := [.int (nI i)]) (rest := []) S lk_ps_65 k_ps_presentOrNull (c_ps_presentOrNull l Z G x hx0 hpa hpt (nI i)) ⟨rfl, rfl⟩ ⟨Nat.le_of_ble_eq_true rfl, Nat.le_of_ble_eq_true rfl⟩ (gPreV hG hE hx0 rfl) rfl hl.1 rfl (Nat.le_of_ble_eq_true rfl) d_ps_countSeeded_15 ⟨Nat.le_of_ble_eq_true rfl, Nat.le_of_ble_eq_true rfl⟩) (fun r15 h15 => ?_)
    cases r15 with
    | none =>
      refine lv_astore_nN (lv' := [(3, .null), (0, .ref x), (1, .int (nI n)), (2, .int (nI i))]) hx hb d_ps_countSeeded_18 rfl hl (by decide) rfl (fun ls hl => ?_)
      refine lv_aload_nN hx hb d_ps_countSeeded_19 rfl (lv_at hl 0 rfl) ?_
      refine lv_ifnullN (tgt := 34) hx hb d_ps_countSeeded_20 (by decide) ?_
      refine lv_iinc (v := nI (i + 1)) (lv' := [(2, .int (nI (i + 1))), (3, .null), (0, .ref x), (1, .int (nI n))]) hx hb d_ps_countSeeded_34 hl (k := 3) rfl (show nI i + 1 = _ from nI_1 i) (by decide) rfl (fun ls hl => ?_)
      refine lv_goto (tgt := 4) hx hb d_ps_countSeeded_37 (by decide) ?_
      exact ih4 ((i + 1), n) _ ⟨⟨by omega, by subst hn; simp only [cntS, itr_s]; first | (rw [prI_nat _ _ (by omega)] at h15; simp [← h15]; done) | simp [← h15, c28]⟩, lv_sub hl [2, 3, 0] rfl⟩ (by first | omega | (simp only []; omega))
    | some a15 =>
      rw [prI_nat _ _ (by omega)] at h15
      obtain ⟨p15, g15⟩ := prN_some h15
      refine lv_astore_n (lv' := [(3, .ref a15), (0, .ref x), (1, .int (nI n)), (2, .int (nI i))]) hx hb d_ps_countSeeded_18 rfl hl (by decide) rfl (fun ls hl => ?_)
      refine lv_aload_n hx hb d_ps_countSeeded_19 rfl (lv_at hl 0 rfl) ?_
      refine lv_ifnull hx hb d_ps_countSeeded_20 ?_
      refine lv_aload_n hx hb d_ps_countSeeded_23 rfl (lv_at hl 0 rfl) ?_
      refine g_getN S hE.1 hG (hpt i a15 (by omega) p15) rfl in_pt 4 (by decide) (hE.2 _ nw_22) (fun _ h9 => h9) rfl d_ps_countSeeded_24 ?_
      refine lv_iconst (v := (-1)) hx hb d_ps_countSeeded_27 (by decide) ?_
      refine lv_icmp_eq (tgt := 34) hx hb d_ps_countSeeded_28 (by decide) (fun c28 => ?_) (fun c28 => ?_)
      · refine lv_iinc (v := nI (i + 1)) (lv' := [(2, .int (nI (i + 1))), (3, .ref a15), (0, .ref x), (1, .int (nI n))]) hx hb d_ps_countSeeded_34 hl (k := 3) rfl (show nI i + 1 = _ from nI_1 i) (by decide) rfl (fun ls hl => ?_)
        refine lv_goto (tgt := 4) hx hb d_ps_countSeeded_37 (by decide) ?_
        exact ih4 ((i + 1), n) _ ⟨⟨by omega, by subst hn; simp only [cntS, itr_s]; first | (rw [prI_nat _ _ (by omega)] at h15; simp [← h15]; done) | simp [← h15, c28]⟩, lv_sub hl [2, 3, 0] rfl⟩ (by first | omega | (simp only []; omega))
      · refine lv_iinc (v := nI (n + 1)) (lv' := [(1, .int (nI (n + 1))), (3, .ref a15), (0, .ref x), (2, .int (nI i))]) hx hb d_ps_countSeeded_31 hl (k := 2) rfl (show nI n + 1 = _ from nI_1 n) (by decide) rfl (fun ls hl => ?_)
        refine lv_iinc (v := nI (i + 1)) (lv' := [(2, .int (nI (i + 1))), (1, .int (nI (n + 1))), (3, .ref a15), (0, .ref x)]) hx hb d_ps_countSeeded_34 hl (k := 3) rfl (show nI i + 1 = _ from nI_1 i) (by decide) rfl (fun ls hl => ?_)
        refine lv_goto (tgt := 4) hx hb d_ps_countSeeded_37 (by decide) ?_
        exact ih4 ((i + 1), (n + 1)) _ ⟨⟨by omega, by subst hn; simp only [cntS, itr_s]; first | (rw [prI_nat _ _ (by omega)] at h15; simp [← h15]; done) | simp [← h15, c28]⟩, lv_sub hl [3, 1, 0] rfl⟩ (by first | omega | (simp only []; omega))

set_option maxHeartbeats 4000000 in
set_option maxRecDepth 100000 in
theorem c_ps_countCared (l : Launch) (Z : gZ) (G : gh) (x : Nat) {sh ma pa : Nat} {mad fk : Int32} (hx0 : G x = some (.inr (0, [.ref sh, .ref ma, .ref pa, .int mad, .int fk]))) {pt : Nat → Option Nat} {pd : Nat → Pat} (hpa : G pa = some (.inl (Z.2 3, 24, .inr (.inr (.inr (.inr pt)))))) (hpt : ∀ i a, i < 24 → pt i = some a → G a = some (.inr (3, pfs (pd i)))) : Met l y_ps_countCared (wd_ps_countCared :: Gall) ({ frames := 1, cells := 0, slots := 0, locals := 22 }) (va_Pc [.ref x] (gPure Z G)) (vp_Si (fun r : Int32 => r = cntC pt pd 24)) 0 0 (fun _ => False) := by
  refine Met.ofW (cc := b_ps_countCared) (maxL := 4) (ret := (some .int)) (by decide) rfl ?_
  intro p e s m args below meth c s₁ B hml hv
  obtain ⟨rfl, hG, hE⟩ := hv
  have hx := B.exec
  have hb := B.bytes
  have hr := B.returns
  have hlocks := B.notSynchronized
  have S : CallFix p m c b_ps_countCared 4 s _ Gall "PackSeeds" := ⟨hx, hb, hml, findClass_of_methodNamed B.named, fun w hw => atoms_spec (ws := wd_ps_countCared :: Gall) B.pre w (List.mem_cons_of_mem _ hw)⟩
  have hl := lv_entry ([.ref x]) (n := 4) (Nat.le_of_ble_eq_true rfl)
  rw [lg_entry_eq]
  generalize (lg_sl ([.ref x]) ++ List.replicate (4 - (lg_sl ([.ref x])).length) Slot.unset).toArray = ls at hl ⊢
  have hl : lv_has ls 4 [(0, .ref x)] := hl
  refine lv_iconst (v := 0) hx hb d_ps_countCared_0 (by decide) ?_
  refine lv_istore_n (lv' := [(1, .int 0), (0, .ref x)]) hx hb d_ps_countCared_1 rfl hl (by decide) rfl (fun ls hl => ?_)
  refine lv_iconst (v := nI 0) hx hb d_ps_countCared_2 (by decide) ?_
  refine lv_istore_n (lv' := [(2, .int (nI 0)), (1, .int 0), (0, .ref x)]) hx hb d_ps_countCared_3 rfl hl (by decide) rfl (fun ls hl => ?_)
  refine g_ind (V := Nat × Int32) (fun (i, n) ls => (i ≤ 24 ∧ n = cntC pt pd i) ∧ lv_has ls 4 [(0, .ref x), (1, .int n), (2, .int (nI i))]) (fun (i, n) => 24 - i) ?_ (0, 0) _ ⟨⟨Nat.zero_le _, rfl⟩, lv_sub hl [2, 1, 0] rfl⟩
  intro v ls hI ih4
  obtain ⟨i, n⟩ := v
  obtain ⟨⟨hi, hn⟩, hl⟩ := hI
  refine lv_iload_n hx hb d_ps_countCared_4 rfl (lv_at hl 2 rfl) ?_
  refine lv_aload_n hx hb d_ps_countCared_5 rfl (lv_at hl 0 rfl) ?_
  refine g_get S hE.1 hG hx0 rfl in_ps 2 (by decide) tw_70 (fun _ h9 => h9) rfl d_ps_countCared_6 ?_
  refine g_alen S hE.1 hG hpa 3 rfl (v := nI 24) rfl d_ps_countCared_9 ?_
  refine g_ge (tgt := 39) hx hb d_ps_countCared_10 (by decide) (by omega) (by omega) (fun c10 => ?_) (fun c10 => ?_)
  · refine lv_iload_n hx hb d_ps_countCared_39 rfl (lv_at hl 1 rfl) ?_
    exact W.iret hx hb hr (fun t9 ht9 hW9 => ⟨_, rfl, (by rw [hn, show i = 24 by omega]), ht9⟩) (fun _ h => nomatch h) d_ps_countCared_40
  · refine lv_aload_n hx hb d_ps_countCared_13 rfl (lv_at hl 0 rfl) ?_
    refine lv_iload_n hx hb d_ps_countCared_14 rfl (lv_at hl 2 rfl) ?_
    refine g_retq (g_runV (As := [.int (nI i)]) (rest := []) S lk_ps_65 k_ps_presentOrNull (c_ps_presentOrNull l Z G x hx0 hpa hpt (nI i)) ⟨rfl, rfl⟩ ⟨Nat.le_of_ble_eq_true rfl, Nat.le_of_ble_eq_true rfl⟩ (gPreV hG hE hx0 rfl) rfl hl.1 rfl (Nat.le_of_ble_eq_true rfl) d_ps_countCared_15 ⟨Nat.le_of_ble_eq_true rfl, Nat.le_of_ble_eq_true rfl⟩) (fun r15 h15 => ?_)
    cases r15 with
    | none =>
      refine lv_astore_nN (lv' := [(3, .null), (0, .ref x), (1, .int n), (2, .int (nI i))]) hx hb d_ps_countCared_18 rfl hl (by decide) rfl (fun ls hl => ?_)
      refine lv_aload_nN hx hb d_ps_countCared_19 rfl (lv_at hl 0 rfl) ?_
      refine lv_ifnullN (tgt := 33) hx hb d_ps_countCared_20 (by decide) ?_
      refine lv_iinc (v := nI (i + 1)) (lv' := [(2, .int (nI (i + 1))), (3, .null), (0, .ref x), (1, .int n)]) hx hb d_ps_countCared_33 hl (k := 3) rfl (show nI i + 1 = _ from nI_1 i) (by decide) rfl (fun ls hl => ?_)
      refine lv_goto (tgt := 4) hx hb d_ps_countCared_36 (by decide) ?_
      exact ih4 ((i + 1), n) _ ⟨⟨by omega, by subst_vars; simp only [cntC, itr_s]; first | (rw [prI_nat _ _ (by omega)] at h15; simp [← h15]; done) | simp [← h15]⟩, lv_sub hl [2, 3, 0] rfl⟩ (by first | omega | (simp only []; omega))
    | some a15 =>
      rw [prI_nat _ _ (by omega)] at h15
      obtain ⟨p15, g15⟩ := prN_some h15
      refine lv_astore_n (lv' := [(3, .ref a15), (0, .ref x), (1, .int n), (2, .int (nI i))]) hx hb d_ps_countCared_18 rfl hl (by decide) rfl (fun ls hl => ?_)
      refine lv_aload_n hx hb d_ps_countCared_19 rfl (lv_at hl 0 rfl) ?_
      refine lv_ifnull hx hb d_ps_countCared_20 ?_
      refine lv_iload_n hx hb d_ps_countCared_23 rfl (lv_at hl 2 rfl) ?_
      refine lv_aload_n hx hb d_ps_countCared_24 rfl (lv_at hl 0 rfl) ?_
      refine g_getN S hE.1 hG (hpt i a15 (by omega) p15) rfl in_pt 0 (by decide) (hE.2 _ nw_18) (fun _ h9 => h9) rfl d_ps_countCared_25 ?_
      refine g_reti (g_runS (As := [.int (pca (pd i))]) (rest := [.int n]) S lk_ps_177 k_in_bitCount (c_in_bitCount l Z G (pca (pd i))) ⟨rfl, rfl⟩ ⟨Nat.le_of_ble_eq_true rfl, Nat.le_of_ble_eq_true rfl⟩ (gPreS hG hE) rfl hl.1 rfl (Nat.le_of_ble_eq_true rfl) d_ps_countCared_28 ⟨Nat.le_of_ble_eq_true rfl, Nat.le_of_ble_eq_true rfl⟩) (fun r28 h28 => ?_)
      refine lv_iadd hx hb d_ps_countCared_31 ?_
      refine lv_topi (fun x32 e32 => ?_)
      refine lv_istore_n (lv' := [(1, .int x32), (3, .ref a15), (0, .ref x), (2, .int (nI i))]) hx hb d_ps_countCared_32 rfl hl (by decide) rfl (fun ls hl => ?_)
      refine lv_iinc (v := nI (i + 1)) (lv' := [(2, .int (nI (i + 1))), (1, .int x32), (3, .ref a15), (0, .ref x)]) hx hb d_ps_countCared_33 hl (k := 3) rfl (show nI i + 1 = _ from nI_1 i) (by decide) rfl (fun ls hl => ?_)
      refine lv_goto (tgt := 4) hx hb d_ps_countCared_36 (by decide) ?_
      exact ih4 ((i + 1), x32) _ ⟨⟨by omega, by subst_vars; simp only [cntC, itr_s]; first | (rw [prI_nat _ _ (by omega)] at h15; simp [← h15]; done) | simp [← h15]⟩, lv_sub hl [3, 1, 0] rfl⟩ (by first | omega | (simp only []; omega))

set_option maxHeartbeats 4000000 in
set_option maxRecDepth 100000 in
theorem c_ps_faultsOfAllBut (l : Launch) (Z : gZ) (G : gh) (x : Nat) {sh ma pa : Nat} {mad fk : Int32} (hx0 : G x = some (.inr (0, [.ref sh, .ref ma, .ref pa, .int mad, .int fk]))) {pt : Nat → Option Nat} {pd : Nat → Pat} (hpa : G pa = some (.inl (Z.2 3, 24, .inr (.inr (.inr (.inr pt)))))) (hpt : ∀ i a, i < 24 → pt i = some a → G a = some (.inr (3, pfs (pd i)))) (y : Int32) : Met l y_ps_faultsOfAllBut (wd_ps_faultsOfAllBut :: Gall) ({ frames := 1, cells := 0, slots := 0, locals := 22 }) (va_Pc [.ref x, .int y] (gPure Z G)) (vp_Si (fun r : Int32 => r = orF pt pd y 24)) 0 0 (fun _ => False) := by
  refine Met.ofW (cc := b_ps_faultsOfAllBut) (maxL := 5) (ret := (some .int)) (by decide) rfl ?_
  intro p e s m args below meth c s₁ B hml hv
  obtain ⟨rfl, hG, hE⟩ := hv
  have hx := B.exec
  have hb := B.bytes
  have hr := B.returns
  have hlocks := B.notSynchronized
  have S : CallFix p m c b_ps_faultsOfAllBut 5 s _ Gall "PackSeeds" := ⟨hx, hb, hml, findClass_of_methodNamed B.named, fun w hw => atoms_spec (ws := wd_ps_faultsOfAllBut :: Gall) B.pre w (List.mem_cons_of_mem _ hw)⟩
  have hl := lv_entry ([.ref x, .int y]) (n := 5) (Nat.le_of_ble_eq_true rfl)
  rw [lg_entry_eq]
  generalize (lg_sl ([.ref x, .int y]) ++ List.replicate (5 - (lg_sl ([.ref x, .int y])).length) Slot.unset).toArray = ls at hl ⊢
  have hl : lv_has ls 5 [(0, .ref x), (1, .int y)] := hl
  refine lv_iconst (v := 0) hx hb d_ps_faultsOfAllBut_0 (by decide) ?_
  refine lv_istore_n (lv' := [(2, .int 0), (0, .ref x), (1, .int y)]) hx hb d_ps_faultsOfAllBut_1 rfl hl (by decide) rfl (fun ls hl => ?_)
  refine lv_iconst (v := nI 0) hx hb d_ps_faultsOfAllBut_2 (by decide) ?_
  refine lv_istore_n (lv' := [(3, .int (nI 0)), (2, .int 0), (0, .ref x), (1, .int y)]) hx hb d_ps_faultsOfAllBut_3 rfl hl (by decide) rfl (fun ls hl => ?_)
  refine g_ind (V := Nat × Int32) (fun (i, n) ls => (i ≤ 24 ∧ n = orF pt pd y i) ∧ lv_has ls 5 [(0, .ref x), (1, .int y), (2, .int n), (3, .int (nI i))]) (fun (i, n) => 24 - i) ?_ (0, 0) _ ⟨⟨Nat.zero_le _, rfl⟩, lv_sub hl [2, 3, 1, 0] rfl⟩
  intro v ls hI ih4
  obtain ⟨i, n⟩ := v
  obtain ⟨⟨hi, hn⟩, hl⟩ := hI
  refine lv_iload_n hx hb d_ps_faultsOfAllBut_4 rfl (lv_at hl 3 rfl) ?_
  refine lv_aload_n hx hb d_ps_faultsOfAllBut_5 rfl (lv_at hl 0 rfl) ?_
  refine g_get S hE.1 hG hx0 rfl in_ps 2 (by decide) tw_70 (fun _ h9 => h9) rfl d_ps_faultsOfAllBut_6 ?_
  refine g_alen S hE.1 hG hpa 3 rfl (v := nI 24) rfl d_ps_faultsOfAllBut_9 ?_
  refine g_ge (tgt := 44) hx hb d_ps_faultsOfAllBut_10 (by decide) (by omega) (by omega) (fun c10 => ?_) (fun c10 => ?_)
  · refine lv_iload_n hx hb d_ps_faultsOfAllBut_44 rfl (lv_at hl 2 rfl) ?_
    exact W.iret hx hb hr (fun t9 ht9 hW9 => ⟨_, rfl, (by rw [hn, show i = 24 by omega]), ht9⟩) (fun _ h => nomatch h) d_ps_faultsOfAllBut_45
  · refine lv_aload_n hx hb d_ps_faultsOfAllBut_13 rfl (lv_at hl 0 rfl) ?_
    refine lv_iload_n hx hb d_ps_faultsOfAllBut_14 rfl (lv_at hl 3 rfl) ?_
    refine g_retq (g_runV (As := [.int (nI i)]) (rest := []) S lk_ps_65 k_ps_presentOrNull (c_ps_presentOrNull l Z G x hx0 hpa hpt (nI i)) ⟨rfl, rfl⟩ ⟨Nat.le_of_ble_eq_true rfl, Nat.le_of_ble_eq_true rfl⟩ (gPreV hG hE hx0 rfl) rfl hl.1 rfl (Nat.le_of_ble_eq_true rfl) d_ps_faultsOfAllBut_15 ⟨Nat.le_of_ble_eq_true rfl, Nat.le_of_ble_eq_true rfl⟩) (fun r15 h15 => ?_)
    cases r15 with
    | none =>
      refine lv_astoreN (lv' := [(4, .null), (0, .ref x), (1, .int y), (2, .int n), (3, .int (nI i))]) hx hb d_ps_faultsOfAllBut_18 hl (by decide) rfl (fun ls hl => ?_)
      refine lv_aloadN hx hb d_ps_faultsOfAllBut_20 (lv_at hl 0 rfl) ?_
      refine lv_ifnullN (tgt := 38) hx hb d_ps_faultsOfAllBut_22 (by decide) ?_
      refine lv_iinc (v := nI (i + 1)) (lv' := [(3, .int (nI (i + 1))), (4, .null), (0, .ref x), (1, .int y), (2, .int n)]) hx hb d_ps_faultsOfAllBut_38 hl (k := 4) rfl (show nI i + 1 = _ from nI_1 i) (by decide) rfl (fun ls hl => ?_)
      refine lv_goto (tgt := 4) hx hb d_ps_faultsOfAllBut_41 (by decide) ?_
      exact ih4 ((i + 1), n) _ ⟨⟨by omega, by subst_vars; simp only [orF, itr_s]; first | (rw [prI_nat _ _ (by omega)] at h15; simp [← h15]; done) | simp [← h15, c27]; done | simp [← h15]⟩, lv_sub hl [2, 3, 4, 0] rfl⟩ (by first | omega | (simp only []; omega))
    | some a15 =>
      rw [prI_nat _ _ (by omega)] at h15
      obtain ⟨p15, g15⟩ := prN_some h15
      refine lv_astore (lv' := [(4, .ref a15), (0, .ref x), (1, .int y), (2, .int n), (3, .int (nI i))]) hx hb d_ps_faultsOfAllBut_18 hl (by decide) rfl (fun ls hl => ?_)
      refine lv_aload hx hb d_ps_faultsOfAllBut_20 (lv_at hl 0 rfl) ?_
      refine lv_ifnull hx hb d_ps_faultsOfAllBut_22 ?_
      refine lv_iload_n hx hb d_ps_faultsOfAllBut_25 rfl (lv_at hl 4 rfl) ?_
      refine lv_iload_n hx hb d_ps_faultsOfAllBut_26 rfl (lv_at hl 2 rfl) ?_
      refine lv_icmp_eq (tgt := 38) hx hb d_ps_faultsOfAllBut_27 (by decide) (fun c27 => ?_) (fun c27 => ?_)
      · refine lv_iinc (v := nI (i + 1)) (lv' := [(3, .int (nI (i + 1))), (4, .ref a15), (0, .ref x), (1, .int y), (2, .int n)]) hx hb d_ps_faultsOfAllBut_38 hl (k := 4) rfl (show nI i + 1 = _ from nI_1 i) (by decide) rfl (fun ls hl => ?_)
        refine lv_goto (tgt := 4) hx hb d_ps_faultsOfAllBut_41 (by decide) ?_
        exact ih4 ((i + 1), n) _ ⟨⟨by omega, by subst_vars; simp only [orF, itr_s]; first | (rw [prI_nat _ _ (by omega)] at h15; simp [← h15]; done) | simp [← h15, c27]; done | simp [← h15]⟩, lv_sub hl [2, 3, 4, 0] rfl⟩ (by first | omega | (simp only []; omega))
      · refine lv_iload_n hx hb d_ps_faultsOfAllBut_30 rfl (lv_at hl 3 rfl) ?_
        refine lv_aload hx hb d_ps_faultsOfAllBut_31 (lv_at hl 0 rfl) ?_
        refine g_getN S hE.1 hG (hpt i a15 (by omega) p15) rfl in_pt 3 (by decide) (hE.2 _ nw_21) (fun _ h9 => h9) rfl d_ps_faultsOfAllBut_33 ?_
        refine lv_ior hx hb d_ps_faultsOfAllBut_36 ?_
        refine lv_topi (fun x37 e37 => ?_)
        refine lv_istore_n (lv' := [(2, .int x37), (4, .ref a15), (0, .ref x), (1, .int y), (3, .int (nI i))]) hx hb d_ps_faultsOfAllBut_37 rfl hl (by decide) rfl (fun ls hl => ?_)
        refine lv_iinc (v := nI (i + 1)) (lv' := [(3, .int (nI (i + 1))), (2, .int x37), (4, .ref a15), (0, .ref x), (1, .int y)]) hx hb d_ps_faultsOfAllBut_38 hl (k := 4) rfl (show nI i + 1 = _ from nI_1 i) (by decide) rfl (fun ls hl => ?_)
        refine lv_goto (tgt := 4) hx hb d_ps_faultsOfAllBut_41 (by decide) ?_
        exact ih4 ((i + 1), x37) _ ⟨⟨by omega, by subst_vars; simp only [orF, itr_s]; first | (rw [prI_nat _ _ (by omega)] at h15; simp [← h15]; done) | simp [← h15, c27]; done | simp [← h15]⟩, lv_sub hl [3, 4, 1, 0] rfl⟩ (by first | omega | (simp only []; omega))

set_option maxHeartbeats 4000000 in
set_option maxRecDepth 100000 in
theorem c_ma_make (l : Launch) (Z : gZ) (G : gh) (h : Nat) {sh ro : Nat} {stg tp : Int32} (hm : G h = some (.inr (2, [.ref sh, .ref ro, .int stg, .int tp]))) {C E : Nat} (hs : G sh = some (.inr (1, [.int (nI C), .int (nI E)]))) (hC : C ≤ 4) (hE8 : E ≤ 8) (sd : Int32) : Met l y_ma_make (wd_ma_make :: Gall) ({ frames := 2, cells := 0, slots := 0, locals := 42 }) (va_Pc [.ref h, .int sd] (gPure Z G)) (vp_Si (fun r : Int32 => r = makeC stg tp C E sd)) 0 0 (fun _ => False) := by
  refine Met.ofW (cc := b_ma_make) (maxL := 6) (ret := (some .int)) (by decide) rfl ?_
  intro p e s m args below meth c s₁ B hml hv
  obtain ⟨rfl, hG, hE⟩ := hv
  have hx := B.exec
  have hb := B.bytes
  have hr := B.returns
  have hlocks := B.notSynchronized
  have S : CallFix p m c b_ma_make 6 s _ Gall "PackSeeds$Machine" := ⟨hx, hb, hml, findClass_of_methodNamed B.named, fun w hw => atoms_spec (ws := wd_ma_make :: Gall) B.pre w (List.mem_cons_of_mem _ hw)⟩
  have hl := lv_entry ([.ref h, .int sd]) (n := 6) (Nat.le_of_ble_eq_true rfl)
  rw [lg_entry_eq]
  generalize (lg_sl ([.ref h, .int sd]) ++ List.replicate (6 - (lg_sl ([.ref h, .int sd])).length) Slot.unset).toArray = ls at hl ⊢
  have hl : lv_has ls 6 [(0, .ref h), (1, .int sd)] := hl
  refine lv_iconst (v := 0) hx hb d_ma_make_0 (by decide) ?_
  refine lv_istore_n (lv' := [(2, .int 0), (0, .ref h), (1, .int sd)]) hx hb d_ma_make_1 rfl hl (by decide) rfl (fun ls hl => ?_)
  refine lv_iload_n hx hb d_ma_make_2 rfl (lv_at hl 2 rfl) ?_
  refine lv_istore_n (lv' := [(3, .int sd), (2, .int 0), (0, .ref h), (1, .int sd)]) hx hb d_ma_make_3 rfl hl (by decide) rfl (fun ls hl => ?_)
  refine lv_iconst (v := nI 0) hx hb d_ma_make_4 (by decide) ?_
  refine lv_istore (lv' := [(4, .int (nI 0)), (3, .int sd), (2, .int 0), (0, .ref h), (1, .int sd)]) hx hb d_ma_make_5 hl (by decide) rfl (fun ls hl => ?_)
  refine g_ind (V := Nat × Int32 × Int32) (fun (t, b, st) ls => (t ≤ E ∧ b = (mkC stg tp C E sd t).1 ∧ st = (mkC stg tp C E sd t).2) ∧ lv_has ls 6 [(0, .ref h), (1, .int sd), (2, .int b), (3, .int st), (4, .int (nI t))]) (fun (t, b, st) => E - t) ?_ (0, 0, sd) _ ⟨⟨Nat.zero_le _, rfl, rfl⟩, lv_sub hl [3, 4, 2, 1, 0] rfl⟩
  intro v ls hI ih7
  obtain ⟨t, b, st⟩ := v
  obtain ⟨⟨ht, hb1, hs1⟩, hl⟩ := hI
  refine lv_iload hx hb d_ma_make_7 (lv_at hl 4 rfl) ?_
  refine lv_aload_n hx hb d_ma_make_9 rfl (lv_at hl 0 rfl) ?_
  refine g_get S hE.1 hG hm rfl in_ma 0 (by decide) tw_51 (fun _ h9 => h9) rfl d_ma_make_10 ?_
  refine g_getN S hE.1 hG hs rfl in_sh 1 (by decide) (hE.2 _ nw_3) (fun _ h9 => h9) rfl d_ma_make_13 ?_
  refine g_ge (tgt := 89) hx hb d_ma_make_16 (by decide) (by omega) (by omega) (fun c16 => ?_) (fun c16 => ?_)
  · refine lv_iload_n hx hb d_ma_make_89 rfl (lv_at hl 2 rfl) ?_
    exact W.iret hx hb hr (fun t9 ht9 hW9 => ⟨_, rfl, (by rw [hb1, show t = E by omega]; rfl), ht9⟩) (fun _ h => nomatch h) d_ma_make_90
  · refine lv_iconst (v := nI 0) hx hb d_ma_make_19 (by decide) ?_
    refine lv_istore (lv' := [(5, .int (nI 0)), (0, .ref h), (1, .int sd), (2, .int b), (3, .int st), (4, .int (nI t))]) hx hb d_ma_make_20 hl (by decide) rfl (fun ls hl => ?_)
    refine g_ind (V := Nat × Int32) (fun (k, a) ls => (k ≤ C ∧ a = mkI stg E t st b k) ∧ lv_has ls 6 [(0, .ref h), (1, .int sd), (2, .int a), (3, .int st), (4, .int (nI t)), (5, .int (nI k))]) (fun (k, a) => C - k) ?_ (0, b) _ ⟨⟨Nat.zero_le _, rfl⟩, lv_sub hl [1, 2, 3, 4, 5, 0] rfl⟩
    intro v ls hI ih22
    obtain ⟨k, a⟩ := v
    obtain ⟨⟨hk, ha⟩, hl⟩ := hI
    refine lv_iload hx hb d_ma_make_22 (lv_at hl 5 rfl) ?_
    refine lv_aload_n hx hb d_ma_make_24 rfl (lv_at hl 0 rfl) ?_
    refine g_get S hE.1 hG hm rfl in_ma 0 (by decide) tw_51 (fun _ h9 => h9) rfl d_ma_make_25 ?_
    refine g_getN S hE.1 hG hs rfl in_sh 0 (by decide) (hE.2 _ nw_1) (fun _ h9 => h9) rfl d_ma_make_28 ?_
    refine g_ge (tgt := 77) hx hb d_ma_make_31 (by decide) (by omega) (by omega) (fun c31 => ?_) (fun c31 => ?_)
    · refine lv_aload_n hx hb d_ma_make_77 rfl (lv_at hl 0 rfl) ?_
      refine lv_iload_n hx hb d_ma_make_78 rfl (lv_at hl 3 rfl) ?_
      refine g_reti (g_runV (As := [.int st]) (rest := []) S lk_ma_47 k_ma_step (c_ma_step l Z G h hm st) ⟨rfl, rfl⟩ ⟨Nat.le_of_ble_eq_true rfl, Nat.le_of_ble_eq_true rfl⟩ (gPreV hG hE hm rfl) rfl hl.1 rfl (Nat.le_of_ble_eq_true rfl) d_ma_make_79 ⟨Nat.le_of_ble_eq_true rfl, Nat.le_of_ble_eq_true rfl⟩) (fun r79 h79 => ?_)
      refine lv_istore_n (lv' := [(3, .int r79), (0, .ref h), (1, .int sd), (2, .int a), (4, .int (nI t)), (5, .int (nI k))]) hx hb d_ma_make_82 rfl hl (by decide) rfl (fun ls hl => ?_)
      refine lv_iinc (v := nI (t + 1)) (lv' := [(4, .int (nI (t + 1))), (3, .int r79), (0, .ref h), (1, .int sd), (2, .int a), (5, .int (nI k))]) hx hb d_ma_make_83 hl (k := 4) rfl (show nI t + 1 = _ from nI_1 t) (by decide) rfl (fun ls hl => ?_)
      refine lv_goto (tgt := 7) hx hb d_ma_make_86 (by decide) ?_
      exact ih7 ((t + 1), a, r79) _ ⟨⟨by omega, by subst_vars; rw [show k = C by omega]; rfl, by subst_vars; rfl⟩, lv_sub hl [2, 3, 4, 1, 0] rfl⟩ (by first | omega | (simp only []; omega))
    · refine lv_iload_n hx hb d_ma_make_34 rfl (lv_at hl 3 rfl) ?_
      refine lv_iconst (v := 1) hx hb d_ma_make_35 (by decide) ?_
      refine lv_aload_n hx hb d_ma_make_36 rfl (lv_at hl 0 rfl) ?_
      refine lv_iconst (v := 5) hx hb d_ma_make_37 (by decide) ?_
      refine lv_iload hx hb d_ma_make_38 (lv_at hl 5 rfl) ?_
      refine lv_imul hx hb d_ma_make_40 ?_
      refine lv_iconst (v := 1) hx hb d_ma_make_41 (by decide) ?_
      refine lv_iadd hx hb d_ma_make_42 ?_
      refine g_reti (g_runV (As := [.int ((5 * (nI k)) + 1)]) (rest := [.int 1, .int st]) S lk_ma_40 k_ma_stageAround (c_ma_stageAround l Z G h hm ((5 * (nI k)) + 1)) ⟨rfl, rfl⟩ ⟨Nat.le_of_ble_eq_true rfl, Nat.le_of_ble_eq_true rfl⟩ (gPreV hG hE hm rfl) rfl hl.1 rfl (Nat.le_of_ble_eq_true rfl) d_ma_make_43 ⟨Nat.le_of_ble_eq_true rfl, Nat.le_of_ble_eq_true rfl⟩) (fun r43 h43 => ?_)
      refine lv_ishl hx hb d_ma_make_46 ?_
      refine lv_iand hx hb d_ma_make_47 ?_
      refine lv_if_eq (tgt := 71) hx hb d_ma_make_48 (by decide) (fun c48 => ?_) (fun c48 => ?_)
      · refine lv_iinc (v := nI (k + 1)) (lv' := [(5, .int (nI (k + 1))), (0, .ref h), (1, .int sd), (2, .int a), (3, .int st), (4, .int (nI t))]) hx hb d_ma_make_71 hl (k := 5) rfl (show nI k + 1 = _ from nI_1 k) (by decide) rfl (fun ls hl => ?_)
        refine lv_goto (tgt := 22) hx hb d_ma_make_74 (by decide) ?_
        exact ih22 ((k + 1), a) _ ⟨⟨by omega, by subst_vars; simp only [mkI, itr_s]; rw [← mkI]; simp [*]⟩, lv_sub hl [1, 2, 3, 4, 5, 0] rfl⟩ (by first | omega | (simp only []; omega))
      · refine lv_iload_n hx hb d_ma_make_51 rfl (lv_at hl 2 rfl) ?_
        refine lv_iload hx hb d_ma_make_52 (lv_at hl 5 rfl) ?_
        refine lv_aload_n hx hb d_ma_make_54 rfl (lv_at hl 0 rfl) ?_
        refine g_get S hE.1 hG hm rfl in_ma 0 (by decide) tw_51 (fun _ h9 => h9) rfl d_ma_make_55 ?_
        refine g_getN S hE.1 hG hs rfl in_sh 1 (by decide) (hE.2 _ nw_3) (fun _ h9 => h9) rfl d_ma_make_58 ?_
        refine lv_iconst (v := 1) hx hb d_ma_make_61 (by decide) ?_
        refine lv_isub hx hb d_ma_make_62 ?_
        refine lv_iload hx hb d_ma_make_63 (lv_at hl 4 rfl) ?_
        refine lv_isub hx hb d_ma_make_65 ?_
        refine g_reti (g_runSN (As := [.int (nI k), .int (((nI E) - 1) - (nI t))]) (rest := [.int a]) S hE lk_ma_43 k_ps_place (c_ps_place l Z G (nI k) (((nI E) - 1) - (nI t))) ⟨rfl, rfl⟩ ⟨Nat.le_of_ble_eq_true rfl, Nat.le_of_ble_eq_true rfl⟩ (gPreS hG hE) rfl hl.1 rfl (Nat.le_of_ble_eq_true rfl) d_ma_make_66 ⟨Nat.le_of_ble_eq_true rfl, Nat.le_of_ble_eq_true rfl⟩) (fun r66 h66 => ?_)
        refine lv_ior hx hb d_ma_make_69 ?_
        refine lv_topi (fun x70 e70 => ?_)
        refine lv_istore_n (lv' := [(2, .int x70), (0, .ref h), (1, .int sd), (3, .int st), (4, .int (nI t)), (5, .int (nI k))]) hx hb d_ma_make_70 rfl hl (by decide) rfl (fun ls hl => ?_)
        refine lv_iinc (v := nI (k + 1)) (lv' := [(5, .int (nI (k + 1))), (2, .int x70), (0, .ref h), (1, .int sd), (3, .int st), (4, .int (nI t))]) hx hb d_ma_make_71 hl (k := 5) rfl (show nI k + 1 = _ from nI_1 k) (by decide) rfl (fun ls hl => ?_)
        refine lv_goto (tgt := 22) hx hb d_ma_make_74 (by decide) ?_
        exact ih22 ((k + 1), x70) _ ⟨⟨by omega, by subst_vars; simp only [mkI, itr_s]; rw [← mkI]; simp [*]⟩, lv_sub hl [2, 3, 1, 4, 5, 0] rfl⟩ (by first | omega | (simp only []; omega))

set_option maxHeartbeats 4000000 in
set_option maxRecDepth 100000 in
theorem c_ma_takeIn (l : Launch) (Z : gZ) (G : gh) (h : Nat) {sh ro : Nat} {stg tp : Int32} (hm : G h = some (.inr (2, [.ref sh, .ref ro, .int stg, .int tp]))) {C E : Nat} (hs : G sh = some (.inr (1, [.int (nI C), .int (nI E)]))) (hC : C ≤ 4) (hE8 : E ≤ 8) (x bits : Int32) : Met l y_ma_takeIn (wd_ma_takeIn :: Gall) ({ frames := 2, cells := 0, slots := 0, locals := 42 }) (va_Pc [.ref h, .int x, .int bits] (gPure Z G)) (vp_Si (fun r : Int32 => r = tkC stg tp C E bits x E)) 0 0 (fun _ => False) := by
  refine Met.ofW (cc := b_ma_takeIn) (maxL := 6) (ret := (some .int)) (by decide) rfl ?_
  intro p e s m args below meth c s₁ B hml hv
  obtain ⟨rfl, hG, hE⟩ := hv
  have hx := B.exec
  have hb := B.bytes
  have hr := B.returns
  have hlocks := B.notSynchronized
  have S : CallFix p m c b_ma_takeIn 6 s _ Gall "PackSeeds$Machine" := ⟨hx, hb, hml, findClass_of_methodNamed B.named, fun w hw => atoms_spec (ws := wd_ma_takeIn :: Gall) B.pre w (List.mem_cons_of_mem _ hw)⟩
  have hl := lv_entry ([.ref h, .int x, .int bits]) (n := 6) (Nat.le_of_ble_eq_true rfl)
  rw [lg_entry_eq]
  generalize (lg_sl ([.ref h, .int x, .int bits]) ++ List.replicate (6 - (lg_sl ([.ref h, .int x, .int bits])).length) Slot.unset).toArray = ls at hl ⊢
  have hl : lv_has ls 6 [(0, .ref h), (1, .int x), (2, .int bits)] := hl
  refine lv_iload_n hx hb d_ma_takeIn_0 rfl (lv_at hl 1 rfl) ?_
  refine lv_istore_n (lv' := [(3, .int x), (0, .ref h), (1, .int x), (2, .int bits)]) hx hb d_ma_takeIn_1 rfl hl (by decide) rfl (fun ls hl => ?_)
  refine lv_iconst (v := nI 0) hx hb d_ma_takeIn_2 (by decide) ?_
  refine lv_istore (lv' := [(4, .int (nI 0)), (3, .int x), (0, .ref h), (1, .int x), (2, .int bits)]) hx hb d_ma_takeIn_3 hl (by decide) rfl (fun ls hl => ?_)
  refine g_ind (V := Nat × Int32) (fun (t, st) ls => (t ≤ E ∧ st = tkC stg tp C E bits x t) ∧ lv_has ls 6 [(0, .ref h), (1, .int x), (2, .int bits), (3, .int st), (4, .int (nI t))]) (fun (t, st) => E - t) ?_ (0, x) _ ⟨⟨Nat.zero_le _, rfl⟩, lv_sub hl [2, 3, 4, 1, 0] rfl⟩
  intro v ls hI ih5
  obtain ⟨t, st⟩ := v
  obtain ⟨⟨ht, hs1⟩, hl⟩ := hI
  refine lv_iload hx hb d_ma_takeIn_5 (lv_at hl 4 rfl) ?_
  refine lv_aload_n hx hb d_ma_takeIn_7 rfl (lv_at hl 0 rfl) ?_
  refine g_get S hE.1 hG hm rfl in_ma 0 (by decide) tw_51 (fun _ h9 => h9) rfl d_ma_takeIn_8 ?_
  refine g_getN S hE.1 hG hs rfl in_sh 1 (by decide) (hE.2 _ nw_3) (fun _ h9 => h9) rfl d_ma_takeIn_11 ?_
  refine g_ge (tgt := 83) hx hb d_ma_takeIn_14 (by decide) (by omega) (by omega) (fun c14 => ?_) (fun c14 => ?_)
  · refine lv_iload_n hx hb d_ma_takeIn_83 rfl (lv_at hl 3 rfl) ?_
    exact W.iret hx hb hr (fun t9 ht9 hW9 => ⟨_, rfl, (by rw [hs1, show t = E by omega]), ht9⟩) (fun _ h => nomatch h) d_ma_takeIn_84
  · refine lv_aload_n hx hb d_ma_takeIn_17 rfl (lv_at hl 0 rfl) ?_
    refine lv_iload_n hx hb d_ma_takeIn_18 rfl (lv_at hl 3 rfl) ?_
    refine g_reti (g_runV (As := [.int st]) (rest := []) S lk_ma_47 k_ma_step (c_ma_step l Z G h hm st) ⟨rfl, rfl⟩ ⟨Nat.le_of_ble_eq_true rfl, Nat.le_of_ble_eq_true rfl⟩ (gPreV hG hE hm rfl) rfl hl.1 rfl (Nat.le_of_ble_eq_true rfl) d_ma_takeIn_19 ⟨Nat.le_of_ble_eq_true rfl, Nat.le_of_ble_eq_true rfl⟩) (fun r19 h19 => ?_)
    refine lv_istore_n (lv' := [(3, .int r19), (0, .ref h), (1, .int x), (2, .int bits), (4, .int (nI t))]) hx hb d_ma_takeIn_22 rfl hl (by decide) rfl (fun ls hl => ?_)
    refine lv_iconst (v := nI 0) hx hb d_ma_takeIn_23 (by decide) ?_
    refine lv_istore (lv' := [(5, .int (nI 0)), (3, .int r19), (0, .ref h), (1, .int x), (2, .int bits), (4, .int (nI t))]) hx hb d_ma_takeIn_24 hl (by decide) rfl (fun ls hl => ?_)
    refine g_ind (V := Nat × Int32) (fun (k, a) ls => (k ≤ C ∧ a = tkI stg E t bits (stepC stg tp st) k) ∧ lv_has ls 6 [(0, .ref h), (1, .int x), (2, .int bits), (3, .int a), (4, .int (nI t)), (5, .int (nI k))]) (fun (k, a) => C - k) ?_ (0, r19) _ ⟨⟨Nat.zero_le _, h19⟩, lv_sub hl [2, 3, 4, 1, 5, 0] rfl⟩
    intro v ls hI ih26
    obtain ⟨k, a⟩ := v
    obtain ⟨⟨hk, ha⟩, hl⟩ := hI
    refine lv_iload hx hb d_ma_takeIn_26 (lv_at hl 5 rfl) ?_
    refine lv_aload_n hx hb d_ma_takeIn_28 rfl (lv_at hl 0 rfl) ?_
    refine g_get S hE.1 hG hm rfl in_ma 0 (by decide) tw_51 (fun _ h9 => h9) rfl d_ma_takeIn_29 ?_
    refine g_getN S hE.1 hG hs rfl in_sh 0 (by decide) (hE.2 _ nw_1) (fun _ h9 => h9) rfl d_ma_takeIn_32 ?_
    refine g_ge (tgt := 77) hx hb d_ma_takeIn_35 (by decide) (by omega) (by omega) (fun c35 => ?_) (fun c35 => ?_)
    · refine lv_iinc (v := nI (t + 1)) (lv' := [(4, .int (nI (t + 1))), (0, .ref h), (1, .int x), (2, .int bits), (3, .int a), (5, .int (nI k))]) hx hb d_ma_takeIn_77 hl (k := 4) rfl (show nI t + 1 = _ from nI_1 t) (by decide) rfl (fun ls hl => ?_)
      refine lv_goto (tgt := 5) hx hb d_ma_takeIn_80 (by decide) ?_
      exact ih5 ((t + 1), a) _ ⟨⟨by omega, by subst_vars; rw [show k = C by omega]; rfl⟩, lv_sub hl [1, 2, 3, 4, 0] rfl⟩ (by first | omega | (simp only []; omega))
    · refine lv_iload_n hx hb d_ma_takeIn_38 rfl (lv_at hl 2 rfl) ?_
      refine lv_iload hx hb d_ma_takeIn_39 (lv_at hl 5 rfl) ?_
      refine lv_aload_n hx hb d_ma_takeIn_41 rfl (lv_at hl 0 rfl) ?_
      refine g_get S hE.1 hG hm rfl in_ma 0 (by decide) tw_51 (fun _ h9 => h9) rfl d_ma_takeIn_42 ?_
      refine g_getN S hE.1 hG hs rfl in_sh 1 (by decide) (hE.2 _ nw_3) (fun _ h9 => h9) rfl d_ma_takeIn_45 ?_
      refine lv_iconst (v := 1) hx hb d_ma_takeIn_48 (by decide) ?_
      refine lv_isub hx hb d_ma_takeIn_49 ?_
      refine lv_iload hx hb d_ma_takeIn_50 (lv_at hl 4 rfl) ?_
      refine lv_isub hx hb d_ma_takeIn_52 ?_
      refine g_reti (g_runSN (As := [.int (nI k), .int (((nI E) - 1) - (nI t))]) (rest := [.int bits]) S hE lk_ma_43 k_ps_place (c_ps_place l Z G (nI k) (((nI E) - 1) - (nI t))) ⟨rfl, rfl⟩ ⟨Nat.le_of_ble_eq_true rfl, Nat.le_of_ble_eq_true rfl⟩ (gPreS hG hE) rfl hl.1 rfl (Nat.le_of_ble_eq_true rfl) d_ma_takeIn_53 ⟨Nat.le_of_ble_eq_true rfl, Nat.le_of_ble_eq_true rfl⟩) (fun r53 h53 => ?_)
      refine lv_iand hx hb d_ma_takeIn_56 ?_
      refine lv_if_eq (tgt := 71) hx hb d_ma_takeIn_57 (by decide) (fun c57 => ?_) (fun c57 => ?_)
      · refine lv_iinc (v := nI (k + 1)) (lv' := [(5, .int (nI (k + 1))), (0, .ref h), (1, .int x), (2, .int bits), (3, .int a), (4, .int (nI t))]) hx hb d_ma_takeIn_71 hl (k := 5) rfl (show nI k + 1 = _ from nI_1 k) (by decide) rfl (fun ls hl => ?_)
        refine lv_goto (tgt := 26) hx hb d_ma_takeIn_74 (by decide) ?_
        exact ih26 ((k + 1), a) _ ⟨⟨by omega, by subst_vars; simp only [tkI, itr_s]; rw [← tkI]; simp [*]⟩, lv_sub hl [1, 2, 3, 4, 5, 0] rfl⟩ (by first | omega | (simp only []; omega))
      · refine lv_iload_n hx hb d_ma_takeIn_60 rfl (lv_at hl 3 rfl) ?_
        refine lv_iconst (v := 1) hx hb d_ma_takeIn_61 (by decide) ?_
        refine lv_aload_n hx hb d_ma_takeIn_62 rfl (lv_at hl 0 rfl) ?_
        refine lv_iload hx hb d_ma_takeIn_63 (lv_at hl 5 rfl) ?_
        refine g_reti (g_runV (As := [.int (nI k)]) (rest := [.int 1, .int a]) S lk_ma_40 k_ma_stageAround (c_ma_stageAround l Z G h hm (nI k)) ⟨rfl, rfl⟩ ⟨Nat.le_of_ble_eq_true rfl, Nat.le_of_ble_eq_true rfl⟩ (gPreV hG hE hm rfl) rfl hl.1 rfl (Nat.le_of_ble_eq_true rfl) d_ma_takeIn_65 ⟨Nat.le_of_ble_eq_true rfl, Nat.le_of_ble_eq_true rfl⟩) (fun r65 h65 => ?_)
        refine lv_ishl hx hb d_ma_takeIn_68 ?_
        refine lv_ixor hx hb d_ma_takeIn_69 ?_
        refine lv_topi (fun x70 e70 => ?_)
        refine lv_istore_n (lv' := [(3, .int x70), (0, .ref h), (1, .int x), (2, .int bits), (4, .int (nI t)), (5, .int (nI k))]) hx hb d_ma_takeIn_70 rfl hl (by decide) rfl (fun ls hl => ?_)
        refine lv_iinc (v := nI (k + 1)) (lv' := [(5, .int (nI (k + 1))), (3, .int x70), (0, .ref h), (1, .int x), (2, .int bits), (4, .int (nI t))]) hx hb d_ma_takeIn_71 hl (k := 5) rfl (show nI k + 1 = _ from nI_1 k) (by decide) rfl (fun ls hl => ?_)
        refine lv_goto (tgt := 26) hx hb d_ma_takeIn_74 (by decide) ?_
        exact ih26 ((k + 1), x70) _ ⟨⟨by omega, by subst_vars; simp only [tkI, itr_s]; rw [← tkI]; simp [*]⟩, lv_sub hl [2, 3, 4, 1, 5, 0] rfl⟩ (by first | omega | (simp only []; omega))
