set_option maxHeartbeats 4000000 in
set_option maxRecDepth 100000 in
theorem c_ps_nearestCare (l : Launch) (Z : gZ) (G : gh) (x : Nat) {sh ma pa : Nat} {mad fk : Int32} (hx0 : G x = some (.inr (0, [.ref sh, .ref ma, .ref pa, .int mad, .int fk]))) {C E : Nat} (hs : G sh = some (.inr (1, [.int (nI C), .int (nI E)]))) (hC : C ≤ 4) (hE8 : E ≤ 8) (it : Nat) {ca va mk fa sd gn : Int32} (hp : G it = some (.inr (3, [.int ca, .int va, .int mk, .int fa, .int sd, .int gn]))) (k j : Nat) (hj : j < E) : Met l y_ps_nearestCare (wd_ps_nearestCare :: Gall) ({ frames := 1, cells := 0, slots := 0, locals := 21 }) (va_Pc [.ref x, .ref it, .int (nI k), .int (nI j)] (gPure Z G)) (vp_Si (fun r : Int32 => r = ncC (fun q => carC ca va (plC (nI k) (nI q))) j E)) 0 0 (fun _ => False) := by
  refine Met.ofW (cc := b_ps_nearestCare) (maxL := 6) (ret := (some .int)) (by decide) rfl ?_
  intro p e s m args below meth c s₁ B hml hv
  obtain ⟨rfl, hG, hE⟩ := hv
  have hx := B.exec
  have hb := B.bytes
  have hr := B.returns
  have hlocks := B.notSynchronized
  have S : CallFix p m c b_ps_nearestCare 6 s _ Gall "PackSeeds" := ⟨hx, hb, hml, findClass_of_methodNamed B.named, fun w hw => atoms_spec (ws := wd_ps_nearestCare :: Gall) B.pre w (List.mem_cons_of_mem _ hw)⟩
  have hl := lv_entry ([.ref x, .ref it, .int (nI k), .int (nI j)]) (n := 6) (Nat.le_of_ble_eq_true rfl)
  rw [lg_entry_eq]
  generalize (lg_sl ([.ref x, .ref it, .int (nI k), .int (nI j)]) ++ List.replicate (6 - (lg_sl ([.ref x, .ref it, .int (nI k), .int (nI j)])).length) Slot.unset).toArray = ls at hl ⊢
  have hl : lv_has ls 6 [(0, .ref x), (1, .ref it), (2, .int (nI k)), (3, .int (nI j))] := hl
  refine lv_iload_n hx hb d_ps_nearestCare_0 rfl (lv_at hl 3 rfl) ?_
  refine lv_istore (lv' := [(4, .int (nI j)), (0, .ref x), (1, .ref it), (2, .int (nI k)), (3, .int (nI j))]) hx hb d_ps_nearestCare_1 hl (by decide) rfl (fun ls hl => ?_)
  refine g_ind (V := Nat) (fun i ls => (i ≤ j + 1 ∧ dnS (fun q => carC ca va (plC (nI k) (nI q))) (j + 1) = dnS (fun q => carC ca va (plC (nI k) (nI q))) i) ∧ lv_has ls 6 [(0, .ref x), (1, .ref it), (2, .int (nI k)), (3, .int (nI j)), (4, .int (dn i))]) (fun i => i) ?_ (j + 1) _ ⟨⟨Nat.le_refl _, rfl⟩, lv_sub hl [1, 2, 3, 4, 0] rfl⟩
  intro v ls hI ih3
  obtain ⟨i, hvv⟩ : ∃ y, y = v := ⟨_, rfl⟩
  subst hvv
  obtain ⟨⟨hi, hv⟩, hl⟩ := hI
  cases i with
  | zero =>
    have hl : lv_has ls 6 [(0, .ref x), (1, .ref it), (2, .int (nI k)), (3, .int (nI j)), (4, .int (-1))] := hl
    refine lv_iload hx hb d_ps_nearestCare_3 (lv_at hl 4 rfl) ?_
    refine lv_if_lt (tgt := 35) hx hb d_ps_nearestCare_5 (by decide) (fun c5 => ?_) (fun c5 => absurd c5 (by decide))
    refine lv_iload_n hx hb d_ps_nearestCare_35 rfl (lv_at hl 3 rfl) ?_
    refine lv_iconst (v := 1) hx hb d_ps_nearestCare_36 (by decide) ?_
    refine lv_iadd hx hb d_ps_nearestCare_37 ?_
    refine g_topi (y := nI (j + 1)) (nI_1 j) ?_
    refine lv_istore (lv' := [(4, .int (nI (j + 1))), (0, .ref x), (1, .ref it), (2, .int (nI k)), (3, .int (nI j))]) hx hb d_ps_nearestCare_38 hl (by decide) rfl (fun ls hl => ?_)
    refine g_ind (V := Nat) (fun i2 ls => (i2 ≤ E ∧ upS (fun q => carC ca va (plC (nI k) (nI q))) (j + 1) (E - (j + 1)) = upS (fun q => carC ca va (plC (nI k) (nI q))) i2 (E - i2)) ∧ lv_has ls 6 [(0, .ref x), (1, .ref it), (2, .int (nI k)), (3, .int (nI j)), (4, .int (nI i2))]) (fun i2 => E - i2) ?_ (j + 1) _ ⟨⟨by omega, rfl⟩, lv_sub hl [1, 2, 3, 4, 0] rfl⟩
    intro v ls hI ih40
    obtain ⟨i2, hvv⟩ : ∃ y, y = v := ⟨_, rfl⟩
    subst hvv
    obtain ⟨⟨hi2, hv2⟩, hl⟩ := hI
    refine lv_iload hx hb d_ps_nearestCare_40 (lv_at hl 4 rfl) ?_
    refine lv_aload_n hx hb d_ps_nearestCare_42 rfl (lv_at hl 0 rfl) ?_
    refine g_get S hE.1 hG hx0 rfl in_ps 0 (by decide) tw_68 (fun _ h9 => h9) rfl d_ps_nearestCare_43 ?_
    refine g_getN S hE.1 hG hs rfl in_sh 1 (by decide) (hE.2 _ nw_4) (fun _ h9 => h9) rfl d_ps_nearestCare_46 ?_
    refine g_ge (tgt := 79) hx hb d_ps_nearestCare_49 (by decide) (by omega) (by omega) (fun c49 => ?_) (fun c49 => ?_)
    · refine lv_iconst (v := 0) hx hb d_ps_nearestCare_79 (by decide) ?_
      exact W.iret hx hb hr (fun t9 ht9 hW9 => ⟨_, rfl, (ncC_no hv (by rw [hv2, show E - i2 = 0 by omega]; rfl)), ht9⟩) (fun _ h => nomatch h) d_ps_nearestCare_80
    · refine lv_aload_n hx hb d_ps_nearestCare_52 rfl (lv_at hl 1 rfl) ?_
      refine lv_iload_n hx hb d_ps_nearestCare_53 rfl (lv_at hl 2 rfl) ?_
      refine lv_iload hx hb d_ps_nearestCare_54 (lv_at hl 4 rfl) ?_
      refine g_reti (g_runS (As := [.int (nI k), .int (nI i2)]) (rest := [.ref it]) S lk_ps_168 k_ps_place (c_ps_place l Z G (nI k) (nI i2)) ⟨rfl, rfl⟩ ⟨Nat.le_of_ble_eq_true rfl, Nat.le_of_ble_eq_true rfl⟩ (gPreS hG hE) rfl hl.1 rfl (Nat.le_of_ble_eq_true rfl) d_ps_nearestCare_56 ⟨Nat.le_of_ble_eq_true rfl, Nat.le_of_ble_eq_true rfl⟩) (fun r56 h56 => ?_)
      refine g_reti (g_runVN (As := [.int r56]) (rest := []) S hE lk_ps_208 k_pt_careAt (c_pt_careAt l Z G it hp r56) ⟨rfl, rfl⟩ ⟨Nat.le_of_ble_eq_true rfl, Nat.le_of_ble_eq_true rfl⟩ (gPreV hG hE hp rfl) rfl hl.1 rfl (Nat.le_of_ble_eq_true rfl) d_ps_nearestCare_59 ⟨Nat.le_of_ble_eq_true rfl, Nat.le_of_ble_eq_true rfl⟩) (fun r59 h59 => ?_)
      refine lv_istore (lv' := [(5, .int r59), (0, .ref x), (1, .ref it), (2, .int (nI k)), (3, .int (nI j)), (4, .int (nI i2))]) hx hb d_ps_nearestCare_62 hl (by decide) rfl (fun ls hl => ?_)
      refine lv_iload hx hb d_ps_nearestCare_64 (lv_at hl 0 rfl) ?_
      refine lv_iconst (v := (-1)) hx hb d_ps_nearestCare_66 (by decide) ?_
      refine lv_icmp_eq (tgt := 73) hx hb d_ps_nearestCare_67 (by decide) (fun c67 => ?_) (fun c67 => ?_)
      · refine lv_iinc (v := nI (i2 + 1)) (lv' := [(4, .int (nI (i2 + 1))), (5, .int r59), (0, .ref x), (1, .ref it), (2, .int (nI k)), (3, .int (nI j))]) hx hb d_ps_nearestCare_73 hl (k := 5) rfl (show nI i2 + 1 = _ from nI_1 i2) (by decide) rfl (fun ls hl => ?_)
        refine lv_goto (tgt := 40) hx hb d_ps_nearestCare_76 (by decide) ?_
        exact ih40 (i2 + 1) _ ⟨⟨by omega, by
            have e9 : carC ca va (plC (nI k) (nI i2)) = -1 := by rw [← h56, ← h59]; exact c67
            rw [hv2, upS_s _ (by omega), if_pos e9]⟩, lv_sub hl [2, 3, 4, 5, 0] rfl⟩ (by first | omega | (simp only []; omega))
      · refine lv_iload hx hb d_ps_nearestCare_70 (lv_at hl 0 rfl) ?_
        exact W.iret hx hb hr (fun t9 ht9 hW9 => ⟨_, rfl, (ncC_up hv (by rw [hv2, upS_s _ (by omega)]; subst_vars; rw [if_neg c67]) c67), ht9⟩) (fun _ h => nomatch h) d_ps_nearestCare_72
  | succ q =>
    have hl : lv_has ls 6 [(0, .ref x), (1, .ref it), (2, .int (nI k)), (3, .int (nI j)), (4, .int (nI q))] := hl
    refine lv_iload hx hb d_ps_nearestCare_3 (lv_at hl 4 rfl) ?_
    refine lv_if_lt (tgt := 35) hx hb d_ps_nearestCare_5 (by decide) (fun c5 => absurd c5 (nI_pos (by omega))) (fun c5 => ?_)
    refine lv_aload_n hx hb d_ps_nearestCare_8 rfl (lv_at hl 1 rfl) ?_
    refine lv_iload_n hx hb d_ps_nearestCare_9 rfl (lv_at hl 2 rfl) ?_
    refine lv_iload hx hb d_ps_nearestCare_10 (lv_at hl 4 rfl) ?_
    refine g_reti (g_runS (As := [.int (nI k), .int (nI q)]) (rest := [.ref it]) S lk_ps_168 k_ps_place (c_ps_place l Z G (nI k) (nI q)) ⟨rfl, rfl⟩ ⟨Nat.le_of_ble_eq_true rfl, Nat.le_of_ble_eq_true rfl⟩ (gPreS hG hE) rfl hl.1 rfl (Nat.le_of_ble_eq_true rfl) d_ps_nearestCare_12 ⟨Nat.le_of_ble_eq_true rfl, Nat.le_of_ble_eq_true rfl⟩) (fun r12 h12 => ?_)
    refine g_reti (g_runVN (As := [.int r12]) (rest := []) S hE lk_ps_208 k_pt_careAt (c_pt_careAt l Z G it hp r12) ⟨rfl, rfl⟩ ⟨Nat.le_of_ble_eq_true rfl, Nat.le_of_ble_eq_true rfl⟩ (gPreV hG hE hp rfl) rfl hl.1 rfl (Nat.le_of_ble_eq_true rfl) d_ps_nearestCare_15 ⟨Nat.le_of_ble_eq_true rfl, Nat.le_of_ble_eq_true rfl⟩) (fun r15 h15 => ?_)
    refine lv_istore (lv' := [(5, .int r15), (0, .ref x), (1, .ref it), (2, .int (nI k)), (3, .int (nI j)), (4, .int (nI q))]) hx hb d_ps_nearestCare_18 hl (by decide) rfl (fun ls hl => ?_)
    refine lv_iload hx hb d_ps_nearestCare_20 (lv_at hl 0 rfl) ?_
    refine lv_iconst (v := (-1)) hx hb d_ps_nearestCare_22 (by decide) ?_
    refine lv_icmp_eq (tgt := 29) hx hb d_ps_nearestCare_23 (by decide) (fun c23 => ?_) (fun c23 => ?_)
    · refine lv_iinc (v := dn q) (lv' := [(4, .int (dn q)), (5, .int r15), (0, .ref x), (1, .ref it), (2, .int (nI k)), (3, .int (nI j))]) hx hb d_ps_nearestCare_29 hl (k := 5) rfl (dn_pred q) (by decide) rfl (fun ls hl => ?_)
      refine lv_goto (tgt := 3) hx hb d_ps_nearestCare_32 (by decide) ?_
      exact ih3 q _ ⟨⟨by omega, by
          have e9 : carC ca va (plC (nI k) (nI q)) = -1 := by rw [← h12, ← h15]; exact c23
          rw [hv]; simp only [dnS]; rw [if_pos e9]⟩, lv_sub hl [2, 3, 4, 5, 0] rfl⟩ (by first | omega | (simp only []; omega))
    · refine lv_iload hx hb d_ps_nearestCare_26 (lv_at hl 0 rfl) ?_
      exact W.iret hx hb hr (fun t9 ht9 hW9 => ⟨_, rfl, (ncC_dn (by rw [hv]; subst_vars; simp only [dnS]; rw [if_neg c23]) c23), ht9⟩) (fun _ h => nomatch h) d_ps_nearestCare_28

set_option maxHeartbeats 4000000 in
set_option maxRecDepth 100000 in
theorem c_ps_filledFromNearest (l : Launch) (Z : gZ) (G : gh) (x : Nat) {sh ma pa : Nat} {mad fk : Int32} (hx0 : G x = some (.inr (0, [.ref sh, .ref ma, .ref pa, .int mad, .int fk]))) {C E : Nat} (hs : G sh = some (.inr (1, [.int (nI C), .int (nI E)]))) (hC : C ≤ 4) (hE8 : E ≤ 8) (it : Nat) {ca va mk fa sd gn : Int32} (hp : G it = some (.inr (3, [.int ca, .int va, .int mk, .int fa, .int sd, .int gn]))) : Met l y_ps_filledFromNearest (wd_ps_filledFromNearest :: Gall) ({ frames := 2, cells := 0, slots := 0, locals := 46 }) (va_Pc [.ref x, .ref it] (gPure Z G)) (vp_Si (fun r : Int32 => r = fillC ca va E C)) 0 0 (fun _ => False) := by
  refine Met.ofW (cc := b_ps_filledFromNearest) (maxL := 5) (ret := (some .int)) (by decide) rfl ?_
  intro p e s m args below meth c s₁ B hml hv
  obtain ⟨rfl, hG, hE⟩ := hv
  have hx := B.exec
  have hb := B.bytes
  have hr := B.returns
  have hlocks := B.notSynchronized
  have S : CallFix p m c b_ps_filledFromNearest 5 s _ Gall "PackSeeds" := ⟨hx, hb, hml, findClass_of_methodNamed B.named, fun w hw => atoms_spec (ws := wd_ps_filledFromNearest :: Gall) B.pre w (List.mem_cons_of_mem _ hw)⟩
  have hl := lv_entry ([.ref x, .ref it]) (n := 5) (Nat.le_of_ble_eq_true rfl)
  rw [lg_entry_eq]
  generalize (lg_sl ([.ref x, .ref it]) ++ List.replicate (5 - (lg_sl ([.ref x, .ref it])).length) Slot.unset).toArray = ls at hl ⊢
  have hl : lv_has ls 5 [(0, .ref x), (1, .ref it)] := hl
  refine lv_iconst (v := 0) hx hb d_ps_filledFromNearest_0 (by decide) ?_
  refine lv_istore_n (lv' := [(2, .int 0), (0, .ref x), (1, .ref it)]) hx hb d_ps_filledFromNearest_1 rfl hl (by decide) rfl (fun ls hl => ?_)
  refine lv_iconst (v := nI 0) hx hb d_ps_filledFromNearest_2 (by decide) ?_
  refine lv_istore_n (lv' := [(3, .int (nI 0)), (2, .int 0), (0, .ref x), (1, .ref it)]) hx hb d_ps_filledFromNearest_3 rfl hl (by decide) rfl (fun ls hl => ?_)
  refine g_ind (V := Nat × Int32) (fun (k, b) ls => (k ≤ C ∧ b = fillC ca va E k) ∧ lv_has ls 5 [(0, .ref x), (1, .ref it), (2, .int b), (3, .int (nI k))]) (fun (k, b) => C - k) ?_ (0, 0) _ ⟨⟨Nat.zero_le _, rfl⟩, lv_sub hl [2, 3, 1, 0] rfl⟩
  intro v ls hI ih4
  obtain ⟨k, b⟩ := v
  obtain ⟨⟨hk, hb1⟩, hl⟩ := hI
  refine lv_iload_n hx hb d_ps_filledFromNearest_4 rfl (lv_at hl 3 rfl) ?_
  refine lv_aload_n hx hb d_ps_filledFromNearest_5 rfl (lv_at hl 0 rfl) ?_
  refine g_get S hE.1 hG hx0 rfl in_ps 0 (by decide) tw_68 (fun _ h9 => h9) rfl d_ps_filledFromNearest_6 ?_
  refine g_getN S hE.1 hG hs rfl in_sh 0 (by decide) (hE.2 _ nw_2) (fun _ h9 => h9) rfl d_ps_filledFromNearest_9 ?_
  refine g_ge (tgt := 63) hx hb d_ps_filledFromNearest_12 (by decide) (by omega) (by omega) (fun c12 => ?_) (fun c12 => ?_)
  · refine lv_iload_n hx hb d_ps_filledFromNearest_63 rfl (lv_at hl 2 rfl) ?_
    exact W.iret hx hb hr (fun t9 ht9 hW9 => ⟨_, rfl, (by rw [hb1, show k = C by omega]), ht9⟩) (fun _ h => nomatch h) d_ps_filledFromNearest_64
  · refine lv_iconst (v := nI 0) hx hb d_ps_filledFromNearest_15 (by decide) ?_
    refine lv_istore (lv' := [(4, .int (nI 0)), (0, .ref x), (1, .ref it), (2, .int b), (3, .int (nI k))]) hx hb d_ps_filledFromNearest_16 hl (by decide) rfl (fun ls hl => ?_)
    refine g_ind (V := Nat × Int32) (fun (j, a) ls => (j ≤ E ∧ a = fillI (fun q => carC ca va (plC (nI k) (nI q))) k E b j) ∧ lv_has ls 5 [(0, .ref x), (1, .ref it), (2, .int a), (3, .int (nI k)), (4, .int (nI j))]) (fun (j, a) => E - j) ?_ (0, b) _ ⟨⟨Nat.zero_le _, rfl⟩, lv_sub hl [1, 2, 3, 4, 0] rfl⟩
    intro v ls hI ih18
    obtain ⟨j, a⟩ := v
    obtain ⟨⟨hj, ha⟩, hl⟩ := hI
    refine lv_iload hx hb d_ps_filledFromNearest_18 (lv_at hl 4 rfl) ?_
    refine lv_aload_n hx hb d_ps_filledFromNearest_20 rfl (lv_at hl 0 rfl) ?_
    refine g_get S hE.1 hG hx0 rfl in_ps 0 (by decide) tw_68 (fun _ h9 => h9) rfl d_ps_filledFromNearest_21 ?_
    refine g_getN S hE.1 hG hs rfl in_sh 1 (by decide) (hE.2 _ nw_4) (fun _ h9 => h9) rfl d_ps_filledFromNearest_24 ?_
    refine g_ge (tgt := 57) hx hb d_ps_filledFromNearest_27 (by decide) (by omega) (by omega) (fun c27 => ?_) (fun c27 => ?_)
    · refine lv_iinc (v := nI (k + 1)) (lv' := [(3, .int (nI (k + 1))), (0, .ref x), (1, .ref it), (2, .int a), (4, .int (nI j))]) hx hb d_ps_filledFromNearest_57 hl (k := 3) rfl (show nI k + 1 = _ from nI_1 k) (by decide) rfl (fun ls hl => ?_)
      refine lv_goto (tgt := 4) hx hb d_ps_filledFromNearest_60 (by decide) ?_
      exact ih4 ((k + 1), a) _ ⟨⟨by omega, by subst_vars; rw [show j = E by omega]; rfl⟩, lv_sub hl [1, 2, 3, 0] rfl⟩ (by first | omega | (simp only []; omega))
    · refine lv_aload_n hx hb d_ps_filledFromNearest_30 rfl (lv_at hl 0 rfl) ?_
      refine lv_aload_n hx hb d_ps_filledFromNearest_31 rfl (lv_at hl 1 rfl) ?_
      refine lv_iload_n hx hb d_ps_filledFromNearest_32 rfl (lv_at hl 3 rfl) ?_
      refine lv_iload hx hb d_ps_filledFromNearest_33 (lv_at hl 4 rfl) ?_
      refine g_reti (g_runV (As := [.ref it, .int (nI k), .int (nI j)]) (rest := []) S lk_ps_204 k_ps_nearestCare (c_ps_nearestCare l Z G x hx0 hs hC hE8 it hp k j (by omega)) ⟨rfl, rfl⟩ ⟨Nat.le_of_ble_eq_true rfl, Nat.le_of_ble_eq_true rfl⟩ (gPreV hG hE hx0 rfl) rfl hl.1 rfl (Nat.le_of_ble_eq_true rfl) d_ps_filledFromNearest_35 ⟨Nat.le_of_ble_eq_true rfl, Nat.le_of_ble_eq_true rfl⟩) (fun r35 h35 => ?_)
      refine lv_iconst (v := 1) hx hb d_ps_filledFromNearest_38 (by decide) ?_
      refine lv_icmp_ne (tgt := 51) hx hb d_ps_filledFromNearest_39 (by decide) (fun c39 => ?_) (fun c39 => ?_)
      · refine lv_iinc (v := nI (j + 1)) (lv' := [(4, .int (nI (j + 1))), (0, .ref x), (1, .ref it), (2, .int a), (3, .int (nI k))]) hx hb d_ps_filledFromNearest_51 hl (k := 4) rfl (show nI j + 1 = _ from nI_1 j) (by decide) rfl (fun ls hl => ?_)
        refine lv_goto (tgt := 18) hx hb d_ps_filledFromNearest_54 (by decide) ?_
        exact ih18 ((j + 1), a) _ ⟨⟨by omega, by subst_vars; simp only [fillI, itr_s]; rw [← fillI]; simp [*]⟩, lv_sub hl [1, 2, 3, 4, 0] rfl⟩ (by first | omega | (simp only []; omega))
      · refine lv_iload_n hx hb d_ps_filledFromNearest_42 rfl (lv_at hl 2 rfl) ?_
        refine lv_iload_n hx hb d_ps_filledFromNearest_43 rfl (lv_at hl 3 rfl) ?_
        refine lv_iload hx hb d_ps_filledFromNearest_44 (lv_at hl 4 rfl) ?_
        refine g_reti (g_runS (As := [.int (nI k), .int (nI j)]) (rest := [.int a]) S lk_ps_168 k_ps_place (c_ps_place l Z G (nI k) (nI j)) ⟨rfl, rfl⟩ ⟨Nat.le_of_ble_eq_true rfl, Nat.le_of_ble_eq_true rfl⟩ (gPreS hG hE) rfl hl.1 rfl (Nat.le_of_ble_eq_true rfl) d_ps_filledFromNearest_46 ⟨Nat.le_of_ble_eq_true rfl, Nat.le_of_ble_eq_true rfl⟩) (fun r46 h46 => ?_)
        refine lv_ior hx hb d_ps_filledFromNearest_49 ?_
        refine lv_topi (fun x50 e50 => ?_)
        refine lv_istore_n (lv' := [(2, .int x50), (0, .ref x), (1, .ref it), (3, .int (nI k)), (4, .int (nI j))]) hx hb d_ps_filledFromNearest_50 rfl hl (by decide) rfl (fun ls hl => ?_)
        refine lv_iinc (v := nI (j + 1)) (lv' := [(4, .int (nI (j + 1))), (2, .int x50), (0, .ref x), (1, .ref it), (3, .int (nI k))]) hx hb d_ps_filledFromNearest_51 hl (k := 4) rfl (show nI j + 1 = _ from nI_1 j) (by decide) rfl (fun ls hl => ?_)
        refine lv_goto (tgt := 18) hx hb d_ps_filledFromNearest_54 (by decide) ?_
        exact ih18 ((j + 1), x50) _ ⟨⟨by omega, by subst_vars; simp only [fillI, itr_s]; rw [← fillI]; simp [*]⟩, lv_sub hl [2, 3, 1, 4, 0] rfl⟩ (by first | omega | (simp only []; omega))

set_option maxHeartbeats 4000000 in
set_option maxRecDepth 100000 in
theorem c_ps_bitsOf (l : Launch) (Z : gZ) (G : gh) (x : Nat) {sh ma pa : Nat} {mad fk : Int32} (hx0 : G x = some (.inr (0, [.ref sh, .ref ma, .ref pa, .int mad, .int fk]))) {C E : Nat} (hs : G sh = some (.inr (1, [.int (nI C), .int (nI E)]))) (hC : C ≤ 4) (hE8 : E ≤ 8) {ro : Nat} {stg tp : Int32} (hm : G ma = some (.inr (2, [.ref sh, .ref ro, .int stg, .int tp]))) (it : Nat) {q : Pat} (hp : G it = some (.inr (3, pfs q))) : Met l y_ps_bitsOf (wd_ps_bitsOf :: Gall) ({ frames := 3, cells := 0, slots := 0, locals := 70 }) (va_Pc [.ref x, .ref it] (gPure Z G)) (vp_Si (fun r : Int32 => r = bitsC stg tp fk C E q)) 0 0 (fun _ => False) := by
  refine Met.ofW (cc := b_ps_bitsOf) (maxL := 2) (ret := (some .int)) (by decide) rfl ?_
  intro p e s m args below meth c s₁ B hml hv
  obtain ⟨rfl, hG, hE⟩ := hv
  have hx := B.exec
  have hb := B.bytes
  have hr := B.returns
  have hlocks := B.notSynchronized
  have S : CallFix p m c b_ps_bitsOf 2 s _ Gall "PackSeeds" := ⟨hx, hb, hml, findClass_of_methodNamed B.named, fun w hw => atoms_spec (ws := wd_ps_bitsOf :: Gall) B.pre w (List.mem_cons_of_mem _ hw)⟩
  have hl := lv_entry ([.ref x, .ref it]) (n := 2) (Nat.le_of_ble_eq_true rfl)
  rw [lg_entry_eq]
  generalize (lg_sl ([.ref x, .ref it]) ++ List.replicate (2 - (lg_sl ([.ref x, .ref it])).length) Slot.unset).toArray = ls at hl ⊢
  have hl : lv_has ls 2 [(0, .ref x), (1, .ref it)] := hl
  refine lv_aload_n hx hb d_ps_bitsOf_0 rfl (lv_at hl 1 rfl) ?_
  refine g_getN S hE.1 hG hp rfl in_pt 4 (by decide) (hE.2 _ nw_22) (fun _ h9 => h9) rfl d_ps_bitsOf_1 ?_
  refine lv_iconst (v := (-1)) hx hb d_ps_bitsOf_4 (by decide) ?_
  refine lv_icmp_eq (tgt := 20) hx hb d_ps_bitsOf_5 (by decide) (fun c5 => ?_) (fun c5 => ?_)
  · refine lv_aload_n hx hb d_ps_bitsOf_20 rfl (lv_at hl 0 rfl) ?_
    refine g_get S hE.1 hG hx0 rfl in_ps 4 (by decide) tw_72 (fun _ h9 => h9) rfl d_ps_bitsOf_21 ?_
    refine lv_iconst (v := 1) hx hb d_ps_bitsOf_24 (by decide) ?_
    refine lv_icmp_ne (tgt := 40) hx hb d_ps_bitsOf_25 (by decide) (fun c25 => ?_) (fun c25 => ?_)
    · refine lv_aload_n hx hb d_ps_bitsOf_40 rfl (lv_at hl 0 rfl) ?_
      refine g_get S hE.1 hG hx0 rfl in_ps 4 (by decide) tw_72 (fun _ h9 => h9) rfl d_ps_bitsOf_41 ?_
      refine lv_iconst (v := 2) hx hb d_ps_bitsOf_44 (by decide) ?_
      refine lv_icmp_ne (tgt := 56) hx hb d_ps_bitsOf_45 (by decide) (fun c45 => ?_) (fun c45 => ?_)
      · refine lv_aload_n hx hb d_ps_bitsOf_56 rfl (lv_at hl 1 rfl) ?_
        refine g_getN S hE.1 hG hp rfl in_pt 1 (by decide) (hE.2 _ nw_19) (fun _ h9 => h9) rfl d_ps_bitsOf_57 ?_
        exact W.iret hx hb hr (fun t9 ht9 hW9 => ⟨_, rfl, (by simp [bitsC, *]), ht9⟩) (fun _ h => nomatch h) d_ps_bitsOf_60
      · refine lv_aload_n hx hb d_ps_bitsOf_48 rfl (lv_at hl 0 rfl) ?_
        refine lv_aload_n hx hb d_ps_bitsOf_49 rfl (lv_at hl 1 rfl) ?_
        refine g_reti (g_runV (As := [.ref it]) (rest := []) S lk_ps_201 k_ps_filledFromNearest (c_ps_filledFromNearest l Z G x hx0 hs hC hE8 it hp) ⟨rfl, rfl⟩ ⟨Nat.le_of_ble_eq_true rfl, Nat.le_of_ble_eq_true rfl⟩ (gPreV hG hE hx0 rfl) rfl hl.1 rfl (Nat.le_of_ble_eq_true rfl) d_ps_bitsOf_50 ⟨Nat.le_of_ble_eq_true rfl, Nat.le_of_ble_eq_true rfl⟩) (fun r50 h50 => ?_)
        refine lv_goto (tgt := 60) hx hb d_ps_bitsOf_53 (by decide) ?_
        exact W.iret hx hb hr (fun t9 ht9 hW9 => ⟨_, rfl, (by simp [bitsC, *]), ht9⟩) (fun _ h => nomatch h) d_ps_bitsOf_60
    · refine lv_aload_n hx hb d_ps_bitsOf_28 rfl (lv_at hl 1 rfl) ?_
      refine g_getN S hE.1 hG hp rfl in_pt 1 (by decide) (hE.2 _ nw_19) (fun _ h9 => h9) rfl d_ps_bitsOf_29 ?_
      refine lv_aload_n hx hb d_ps_bitsOf_32 rfl (lv_at hl 1 rfl) ?_
      refine g_getN S hE.1 hG hp rfl in_pt 0 (by decide) (hE.2 _ nw_18) (fun _ h9 => h9) rfl d_ps_bitsOf_33 ?_
      refine lv_iconst (v := (-1)) hx hb d_ps_bitsOf_36 (by decide) ?_
      refine lv_ixor hx hb d_ps_bitsOf_37 ?_
      refine lv_ior hx hb d_ps_bitsOf_38 ?_
      exact W.iret hx hb hr (fun t9 ht9 hW9 => ⟨_, rfl, (by simp [bitsC, c5, c25]), ht9⟩) (fun _ h => nomatch h) d_ps_bitsOf_39
  · refine lv_aload_n hx hb d_ps_bitsOf_8 rfl (lv_at hl 0 rfl) ?_
    refine g_get S hE.1 hG hx0 rfl in_ps 1 (by decide) tw_69 (fun _ h9 => h9) rfl d_ps_bitsOf_9 ?_
    refine lv_aload_n hx hb d_ps_bitsOf_12 rfl (lv_at hl 1 rfl) ?_
    refine g_getN S hE.1 hG hp rfl in_pt 4 (by decide) (hE.2 _ nw_22) (fun _ h9 => h9) rfl d_ps_bitsOf_13 ?_
    refine g_reti (g_runVN (As := [.int (psd q)]) (rest := []) S hE lk_ps_198 k_ma_make (c_ma_make l Z G ma hm hs hC hE8 (psd q)) ⟨rfl, rfl⟩ ⟨Nat.le_of_ble_eq_true rfl, Nat.le_of_ble_eq_true rfl⟩ (gPreV hG hE hm rfl) rfl hl.1 rfl (Nat.le_of_ble_eq_true rfl) d_ps_bitsOf_16 ⟨Nat.le_of_ble_eq_true rfl, Nat.le_of_ble_eq_true rfl⟩) (fun r16 h16 => ?_)
    exact W.iret hx hb hr (fun t9 ht9 hW9 => ⟨_, rfl, (by simp [bitsC, c5, h16]), ht9⟩) (fun _ h => nomatch h) d_ps_bitsOf_19

set_option maxHeartbeats 4000000 in
set_option maxRecDepth 100000 in
theorem c_ma_hasLongestCycle (l : Launch) (Z : gZ) (G : gh) (h : Nat) {sh ro : Nat} {D : Nat} {tp : Int32} (hm : G h = some (.inr (2, [.ref sh, .ref ro, .int (nI D), .int tp]))) (hD0 : 1 ≤ D) (hD : D ≤ 16) : Met l y_ma_hasLongestCycle (wd_ma_hasLongestCycle :: Gall) ({ frames := 2, cells := 0, slots := 0, locals := 42 }) (va_Pc [.ref h] (gPure Z G)) (vp_Si (fun r : Int32 => (r = 1 ∧ lcC (nI D) tp (2 ^ D - 1)) ∨ (r = 0 ∧ ¬ lcC (nI D) tp (2 ^ D - 1)))) 0 0 (fun _ => False) := by
  refine Met.ofW (cc := b_ma_hasLongestCycle) (maxL := 4) (ret := (some .boolean)) (by decide) rfl ?_
  intro p e s m args below meth c s₁ B hml hv
  obtain ⟨rfl, hG, hE⟩ := hv
  have hx := B.exec
  have hb := B.bytes
  have hr := B.returns
  have hlocks := B.notSynchronized
  have S : CallFix p m c b_ma_hasLongestCycle 4 s _ Gall "PackSeeds$Machine" := ⟨hx, hb, hml, findClass_of_methodNamed B.named, fun w hw => atoms_spec (ws := wd_ma_hasLongestCycle :: Gall) B.pre w (List.mem_cons_of_mem _ hw)⟩
  have hl := lv_entry ([.ref h]) (n := 4) (Nat.le_of_ble_eq_true rfl)
  rw [lg_entry_eq]
  generalize (lg_sl ([.ref h]) ++ List.replicate (4 - (lg_sl ([.ref h])).length) Slot.unset).toArray = ls at hl ⊢
  have hl : lv_has ls 4 [(0, .ref h)] := hl
  have hN : 1 ≤ 2 ^ D - 1 ∧ 2 ^ D - 1 < 2 ^ 31 := by
    have h1 : 2 ^ 1 ≤ 2 ^ D := Nat.pow_le_pow_right (by omega) hD0
    have h2 : 2 ^ D ≤ 2 ^ 16 := Nat.pow_le_pow_right (by omega) hD
    omega
  refine lv_iconst (v := 1) hx hb d_ma_hasLongestCycle_0 (by decide) ?_
  refine lv_aload_n hx hb d_ma_hasLongestCycle_1 rfl (lv_at hl 0 rfl) ?_
  refine g_get S hE.1 hG hm rfl in_ma 2 (by decide) tw_53 (fun _ h9 => h9) rfl d_ma_hasLongestCycle_2 ?_
  refine lv_ishl hx hb d_ma_hasLongestCycle_5 ?_
  refine lv_iconst (v := 1) hx hb d_ma_hasLongestCycle_6 (by decide) ?_
  refine lv_isub hx hb d_ma_hasLongestCycle_7 ?_
  refine g_topi (y := nI (2 ^ D - 1)) (lng1 D (by omega)) ?_
  refine lv_istore_n (lv' := [(1, .int (nI (2 ^ D - 1))), (0, .ref h)]) hx hb d_ma_hasLongestCycle_8 rfl hl (by decide) rfl (fun ls hl => ?_)
  refine lv_iconst (v := 1) hx hb d_ma_hasLongestCycle_9 (by decide) ?_
  refine lv_istore_n (lv' := [(2, .int 1), (1, .int (nI (2 ^ D - 1))), (0, .ref h)]) hx hb d_ma_hasLongestCycle_10 rfl hl (by decide) rfl (fun ls hl => ?_)
  refine lv_iconst (v := nI 1) hx hb d_ma_hasLongestCycle_11 (by decide) ?_
  refine lv_istore_n (lv' := [(3, .int (nI 1)), (2, .int 1), (1, .int (nI (2 ^ D - 1))), (0, .ref h)]) hx hb d_ma_hasLongestCycle_12 rfl hl (by decide) rfl (fun ls hl => ?_)
  refine g_ind (V := Nat × Int32) (fun (i, st) ls => (i + 1 ≤ 2 ^ D - 1 ∧ st = sqC (nI D) tp i ∧ ∀ j, 1 ≤ j → j ≤ i → sqC (nI D) tp j ≠ 1) ∧ lv_has ls 4 [(0, .ref h), (1, .int (nI (2 ^ D - 1))), (2, .int st), (3, .int (nI (i + 1)))]) (fun (i, st) => 2 ^ D - 1 - i) ?_ (0, 1) _ ⟨⟨hN.1, rfl, fun j h1 h2 => by omega⟩, lv_sub hl [3, 2, 1, 0] rfl⟩
  intro v ls hI ih13
  obtain ⟨i, st⟩ := v
  obtain ⟨⟨hi, hst, hno⟩, hl⟩ := hI
  refine lv_iload_n hx hb d_ma_hasLongestCycle_13 rfl (lv_at hl 3 rfl) ?_
  refine lv_iload_n hx hb d_ma_hasLongestCycle_14 rfl (lv_at hl 1 rfl) ?_
  refine g_ge (tgt := 37) hx hb d_ma_hasLongestCycle_15 (by decide) (by omega) (by omega) (fun c15 => ?_) (fun c15 => ?_)
  · refine lv_aload_n hx hb d_ma_hasLongestCycle_37 rfl (lv_at hl 0 rfl) ?_
    refine lv_iload_n hx hb d_ma_hasLongestCycle_38 rfl (lv_at hl 2 rfl) ?_
    refine g_reti (g_runV (As := [.int st]) (rest := []) S lk_ma_47 k_ma_step (c_ma_step l Z G h hm st) ⟨rfl, rfl⟩ ⟨Nat.le_of_ble_eq_true rfl, Nat.le_of_ble_eq_true rfl⟩ (gPreV hG hE hm rfl) rfl hl.1 rfl (Nat.le_of_ble_eq_true rfl) d_ma_hasLongestCycle_39 ⟨Nat.le_of_ble_eq_true rfl, Nat.le_of_ble_eq_true rfl⟩) (fun r39 h39 => ?_)
    refine lv_iconst (v := 1) hx hb d_ma_hasLongestCycle_42 (by decide) ?_
    refine lv_icmp_ne (tgt := 50) hx hb d_ma_hasLongestCycle_43 (by decide) (fun c43 => ?_) (fun c43 => ?_)
    · refine lv_iconst (v := 0) hx hb d_ma_hasLongestCycle_50 (by decide) ?_
      exact W.zret hx hb hr rfl (fun t9 ht9 hW9 => ⟨_, rfl, (by
          have e1 : i + 1 = 2 ^ D - 1 := by omega
          have e2 : r39 = sqC (nI D) tp (2 ^ D - 1) := by rw [← e1, h39, hst]; rfl
          first | exact Or.inl ⟨rfl, fun j h1 h2 => hno j h1 (by omega), by rw [← e2]; exact c43⟩ | exact Or.inr ⟨rfl, fun h9 => c43 (by rw [e2]; exact h9.2)⟩), ht9⟩) (fun _ h => nomatch h) d_ma_hasLongestCycle_51
    · refine lv_iconst (v := 1) hx hb d_ma_hasLongestCycle_46 (by decide) ?_
      refine lv_goto (tgt := 51) hx hb d_ma_hasLongestCycle_47 (by decide) ?_
      exact W.zret hx hb hr rfl (fun t9 ht9 hW9 => ⟨_, rfl, (by
          have e1 : i + 1 = 2 ^ D - 1 := by omega
          have e2 : r39 = sqC (nI D) tp (2 ^ D - 1) := by rw [← e1, h39, hst]; rfl
          first | exact Or.inl ⟨rfl, fun j h1 h2 => hno j h1 (by omega), by rw [← e2]; exact c43⟩ | exact Or.inr ⟨rfl, fun h9 => c43 (by rw [e2]; exact h9.2)⟩), ht9⟩) (fun _ h => nomatch h) d_ma_hasLongestCycle_51
  · refine lv_aload_n hx hb d_ma_hasLongestCycle_18 rfl (lv_at hl 0 rfl) ?_
    refine lv_iload_n hx hb d_ma_hasLongestCycle_19 rfl (lv_at hl 2 rfl) ?_
    refine g_reti (g_runV (As := [.int st]) (rest := []) S lk_ma_47 k_ma_step (c_ma_step l Z G h hm st) ⟨rfl, rfl⟩ ⟨Nat.le_of_ble_eq_true rfl, Nat.le_of_ble_eq_true rfl⟩ (gPreV hG hE hm rfl) rfl hl.1 rfl (Nat.le_of_ble_eq_true rfl) d_ma_hasLongestCycle_20 ⟨Nat.le_of_ble_eq_true rfl, Nat.le_of_ble_eq_true rfl⟩) (fun r20 h20 => ?_)
    refine lv_istore_n (lv' := [(2, .int r20), (0, .ref h), (1, .int (nI (2 ^ D - 1))), (3, .int (nI (i + 1)))]) hx hb d_ma_hasLongestCycle_23 rfl hl (by decide) rfl (fun ls hl => ?_)
    refine lv_iload_n hx hb d_ma_hasLongestCycle_24 rfl (lv_at hl 0 rfl) ?_
    refine lv_iconst (v := 1) hx hb d_ma_hasLongestCycle_25 (by decide) ?_
    refine lv_icmp_ne (tgt := 31) hx hb d_ma_hasLongestCycle_26 (by decide) (fun c26 => ?_) (fun c26 => ?_)
    · refine lv_iinc (v := nI ((i + 1) + 1)) (lv' := [(3, .int (nI ((i + 1) + 1))), (2, .int r20), (0, .ref h), (1, .int (nI (2 ^ D - 1)))]) hx hb d_ma_hasLongestCycle_31 hl (k := 3) rfl (show nI (i + 1) + 1 = _ from nI_1 (i + 1)) (by decide) rfl (fun ls hl => ?_)
      refine lv_goto (tgt := 13) hx hb d_ma_hasLongestCycle_34 (by decide) ?_
      exact ih13 ((i + 1), r20) _ ⟨⟨by omega, by subst_vars; rfl, fun j h1 h2 => by
          rcases Nat.lt_or_ge j (i + 1) with h3 | h3
          · exact hno j h1 (by omega)
          · rw [show j = i + 1 by omega]; intro h9; exact c26 (by rw [h20, hst]; exact h9)⟩, lv_sub hl [2, 3, 1, 0] rfl⟩ (by first | omega | (simp only []; omega))
    · refine lv_iconst (v := 0) hx hb d_ma_hasLongestCycle_29 (by decide) ?_
      exact W.zret hx hb hr rfl (fun t9 ht9 hW9 => ⟨_, rfl, (Or.inr ⟨rfl, fun h9 => h9.1 (i + 1) (by omega) (by omega) (by rw [← c26, h20, hst]; rfl)⟩), ht9⟩) (fun _ h => nomatch h) d_ma_hasLongestCycle_30

set_option maxHeartbeats 4000000 in
set_option maxRecDepth 100000 in
theorem c_ma_reduced (l : Launch) (Z : gZ) (G : gh) (h : Nat) {sh ro : Nat} {stg tp : Int32} (hm : G h = some (.inr (2, [.ref sh, .ref ro, .int stg, .int tp]))) {rw : Nat → Int64} (hro : G ro = some (.inl (Z.2 0, 48, .inr (.inl rw)))) (row : Int64) : Met l y_ma_reduced (wd_ma_reduced :: Gall) ({ frames := 0, cells := 0, slots := 0, locals := 0 }) (va_Pc [.ref h, .long row] (gPure Z G)) (vp_Sl (fun r : Int64 => r = redC rw 32 row)) 0 0 (fun _ => False) := by
  refine Met.ofW (cc := b_ma_reduced) (maxL := 6) (ret := (some .long)) (by decide) rfl ?_
  intro p e s m args below meth c s₁ B hml hv
  obtain ⟨rfl, hG, hE⟩ := hv
  have hx := B.exec
  have hb := B.bytes
  have hr := B.returns
  have hlocks := B.notSynchronized
  have S : CallFix p m c b_ma_reduced 6 s _ Gall "PackSeeds$Machine" := ⟨hx, hb, hml, findClass_of_methodNamed B.named, fun w hw => atoms_spec (ws := wd_ma_reduced :: Gall) B.pre w (List.mem_cons_of_mem _ hw)⟩
  have hl := lv_entry ([.ref h, .long row]) (n := 6) (Nat.le_of_ble_eq_true rfl)
  rw [lg_entry_eq]
  generalize (lg_sl ([.ref h, .long row]) ++ List.replicate (6 - (lg_sl ([.ref h, .long row])).length) Slot.unset).toArray = ls at hl ⊢
  have hl : lv_has ls 6 [(0, .ref h), (1, .long row)] := hl
  refine lv_lload_n hx hb d_ma_reduced_0 rfl (lv_at hl 1 rfl) ?_
  refine lv_lstore_n (lv' := [(3, .long row), (0, .ref h), (1, .long row)]) hx hb d_ma_reduced_1 rfl hl (by decide) rfl (fun ls hl => ?_)
  refine lv_aload_n hx hb d_ma_reduced_2 rfl (lv_at hl 1 rfl) ?_
  refine g_get S hE.1 hG hm rfl in_ma 1 (by decide) tw_52 (fun _ h9 => h9) rfl d_ma_reduced_3 ?_
  refine g_alen S hE.1 hG hro 0 rfl (v := nI 48) rfl d_ma_reduced_6 ?_
  refine lv_iconst (v := 1) hx hb d_ma_reduced_7 (by decide) ?_
  refine lv_isub hx hb d_ma_reduced_8 ?_
  refine g_topi (y := nI (32 + 15)) rfl ?_
  refine lv_istore (lv' := [(5, .int (nI (32 + 15))), (3, .long row), (0, .ref h), (1, .long row)]) hx hb d_ma_reduced_9 hl (by decide) rfl (fun ls hl => ?_)
  refine g_ind (V := Nat × Int64) (fun (k, rs) ls => (k ≤ 32 ∧ redC rw 32 row = redC rw k rs) ∧ lv_has ls 6 [(0, .ref h), (1, .long row), (3, .long rs), (5, .int (nI (k + 15)))]) (fun (k, rs) => k) ?_ (32, row) _ ⟨⟨Nat.le_refl _, rfl⟩, lv_sub hl [2, 3, 1, 0] rfl⟩
  intro v ls hI ih11
  obtain ⟨k, rs⟩ := v
  obtain ⟨⟨hk, hv⟩, hl⟩ := hI
  refine lv_iload hx hb d_ma_reduced_11 (lv_at hl 3 rfl) ?_
  refine lv_bipush (v := nI 16) hx hb d_ma_reduced_13 (by decide) ?_
  refine g_lt (tgt := 45) hx hb d_ma_reduced_15 (by decide) (by omega) (by omega) (fun c15 => ?_) (fun c15 => ?_)
  · refine lv_lload_n hx hb d_ma_reduced_45 rfl (lv_at hl 2 rfl) ?_
    exact W.lret hx hb hr (fun t9 ht9 hW9 => ⟨_, rfl, (by rw [hv, show k = 0 by omega]; rfl), ht9⟩) (fun _ h => nomatch h) d_ma_reduced_46
  · obtain ⟨k1, rfl⟩ : ∃ k1, k = k1 + 1 := ⟨k - 1, by omega⟩
    refine lv_lload_n hx hb d_ma_reduced_18 rfl (lv_at hl 2 rfl) ?_
    refine lv_iload hx hb d_ma_reduced_19 (lv_at hl 3 rfl) ?_
    refine lv_lshr hx hb d_ma_reduced_21 rfl ?_
    refine lv_lconst (v := 1) hx hb d_ma_reduced_22 (by decide) ?_
    refine lv_land hx hb d_ma_reduced_23 ?_
    refine lv_lconst (v := 0) hx hb d_ma_reduced_24 (by decide) ?_
    refine W.lcmp hx hb d_ma_reduced_25 ?_
    refine lv_if_eq (tgt := 39) hx hb d_ma_reduced_26 (by decide) (fun c26 => ?_) (fun c26 => ?_)
    · refine lv_iinc (v := nI (k1 + 15)) (lv' := [(5, .int (nI (k1 + 15))), (0, .ref h), (1, .long row), (3, .long rs)]) hx hb d_ma_reduced_39 hl (k := 3) rfl (show nI (k1 + 1 + 15) + (-1) = nI (k1 + 15) from pk_m1 (k1 + 15)) (by decide) rfl (fun ls hl => ?_)
      refine lv_goto (tgt := 11) hx hb d_ma_reduced_42 (by decide) ?_
      exact ih11 (k1, rs) _ ⟨⟨by omega, by
          rw [hv]
          show redC rw (k1 + 1) rs = _
          first | (have e9 : lbit rs (k1 + 16) = 0 := (lg_cmp_eq _ _).mp c26; rw [redC, if_pos e9]) | (have e9 : ¬ lbit rs (k1 + 16) = 0 := fun z => c26 ((lg_cmp_eq _ _).mpr z); subst_vars; rw [redC, if_neg e9])⟩, lv_sub hl [1, 2, 3, 0] rfl⟩ (by first | omega | (simp only []; omega))
    · refine lv_lload_n hx hb d_ma_reduced_29 rfl (lv_at hl 2 rfl) ?_
      refine lv_aload_n hx hb d_ma_reduced_30 rfl (lv_at hl 0 rfl) ?_
      refine g_get S hE.1 hG hm rfl in_ma 1 (by decide) tw_52 (fun _ h9 => h9) rfl d_ma_reduced_31 ?_
      refine lv_iload hx hb d_ma_reduced_34 (lv_at hl 3 rfl) ?_
      refine g_lald S hE.1 hG hro 0 rfl (vp_in_nI (by omega) (by omega)) d_ma_reduced_36 ?_
      refine g_topl (congrArg rw (nI_clamp (show (k1 + 1 + 15) < 2 ^ 31 by omega))) ?_
      refine lv_lxor hx hb d_ma_reduced_37 ?_
      refine lv_topl (fun x38 e38 => ?_)
      refine lv_lstore_n (lv' := [(3, .long x38), (0, .ref h), (1, .long row), (5, .int (nI (k1 + 1 + 15)))]) hx hb d_ma_reduced_38 rfl hl (by decide) rfl (fun ls hl => ?_)
      refine lv_iinc (v := nI (k1 + 15)) (lv' := [(5, .int (nI (k1 + 15))), (3, .long x38), (0, .ref h), (1, .long row)]) hx hb d_ma_reduced_39 hl (k := 3) rfl (show nI (k1 + 1 + 15) + (-1) = nI (k1 + 15) from pk_m1 (k1 + 15)) (by decide) rfl (fun ls hl => ?_)
      refine lv_goto (tgt := 11) hx hb d_ma_reduced_42 (by decide) ?_
      exact ih11 (k1, x38) _ ⟨⟨by omega, by
          rw [hv]
          show redC rw (k1 + 1) rs = _
          first | (have e9 : lbit rs (k1 + 16) = 0 := (lg_cmp_eq _ _).mp c26; rw [redC, if_pos e9]) | (have e9 : ¬ lbit rs (k1 + 16) = 0 := fun z => c26 ((lg_cmp_eq _ _).mpr z); subst_vars; rw [redC, if_neg e9])⟩, lv_sub hl [2, 3, 1, 0] rfl⟩ (by first | omega | (simp only []; omega))

set_option maxHeartbeats 4000000 in
set_option maxRecDepth 100000 in
theorem c_ps_greatestDivisor (l : Launch) (Z : gZ) (G : gh) (a b : Int64) : Met l y_ps_greatestDivisor (wd_ps_greatestDivisor :: Gall) ({ frames := 1, cells := 0, slots := 0, locals := 23 }) (va_Pc [.long a, .long b] (gPure Z G)) (vp_Sl (fun r : Int64 => r = gcdC a b)) 0 0 (fun _ => False) := by
  refine Met.ofW (cc := b_ps_greatestDivisor) (maxL := 11) (ret := (some .long)) (by decide) rfl ?_
  intro p e s m args below meth c s₁ B hml hv
  obtain ⟨rfl, hG, hE⟩ := hv
  have hx := B.exec
  have hb := B.bytes
  have hr := B.returns
  have hlocks := B.notSynchronized
  have S : CallFix p m c b_ps_greatestDivisor 11 s _ Gall "PackSeeds" := ⟨hx, hb, hml, findClass_of_methodNamed B.named, fun w hw => atoms_spec (ws := wd_ps_greatestDivisor :: Gall) B.pre w (List.mem_cons_of_mem _ hw)⟩
  have hl := lv_entry ([.long a, .long b]) (n := 11) (Nat.le_of_ble_eq_true rfl)
  rw [lg_entry_eq]
  generalize (lg_sl ([.long a, .long b]) ++ List.replicate (11 - (lg_sl ([.long a, .long b])).length) Slot.unset).toArray = ls at hl ⊢
  have hl : lv_has ls 11 [(0, .long a), (2, .long b)] := hl
  refine lv_lload_n hx hb d_ps_greatestDivisor_0 rfl (lv_at hl 0 rfl) ?_
  refine lv_lstore (lv' := [(4, .long a), (0, .long a), (2, .long b)]) hx hb d_ps_greatestDivisor_1 hl (by decide) rfl (fun ls hl => ?_)
  refine lv_lload_n hx hb d_ps_greatestDivisor_3 rfl (lv_at hl 2 rfl) ?_
  refine lv_lstore (lv' := [(6, .long b), (4, .long a), (0, .long a), (2, .long b)]) hx hb d_ps_greatestDivisor_4 hl (by decide) rfl (fun ls hl => ?_)
  refine lv_iconst (v := nI 0) hx hb d_ps_greatestDivisor_6 (by decide) ?_
  refine lv_istore (lv' := [(8, .int (nI 0)), (6, .long b), (4, .long a), (0, .long a), (2, .long b)]) hx hb d_ps_greatestDivisor_7 hl (by decide) rfl (fun ls hl => ?_)
  refine g_ind (V := Nat × Int64 × Int64) (fun (i, g, b2) ls => (i ≤ 128 ∧ gdC 128 a b = gdC (128 - i) g b2) ∧ lv_has ls 11 [(0, .long a), (2, .long b), (4, .long g), (6, .long b2), (8, .int (nI i))]) (fun (i, g, b2) => 128 - i) ?_ (0, a, b) _ ⟨⟨Nat.zero_le _, rfl⟩, lv_sub hl [3, 4, 2, 1, 0] rfl⟩
  intro v ls hI ih9
  obtain ⟨i, g, b2⟩ := v
  obtain ⟨⟨hi, hv⟩, hl⟩ := hI
  refine lv_iload hx hb d_ps_greatestDivisor_9 (lv_at hl 4 rfl) ?_
  refine lv_sipush (v := nI 128) hx hb d_ps_greatestDivisor_11 (by decide) ?_
  refine g_ge (tgt := 45) hx hb d_ps_greatestDivisor_14 (by decide) (by omega) (by omega) (fun c14 => ?_) (fun c14 => ?_)
  · refine lv_lconst (v := 1) hx hb d_ps_greatestDivisor_45 (by decide) ?_
    refine lv_lload hx hb d_ps_greatestDivisor_46 (lv_at hl 2 rfl) ?_
    refine va_mmax_long hx hb (hml.trans hl.1.symm) S.2.2.2.1 (S.2.2.2.2 _ tw_450) (S.2.2.2.2 _ tw_451) (S.2.2.2.2 _ tw_3) (S.2.2.2.2 _ tw_452) (Nat.le_of_ble_eq_true rfl) (Nat.le_of_ble_eq_true rfl) (Nat.le_of_ble_eq_true rfl) (Nat.le_of_ble_eq_true rfl) d_ps_greatestDivisor_48 ?_
    exact W.lret hx hb hr (fun t9 ht9 hW9 => ⟨_, rfl, (by
        have e1 : gdC 128 a b = g := by
          rw [hv]
          first | (rw [show 128 - i = 0 by omega]; rfl) | (rw [show 128 - i = (128 - (i + 1)) + 1 by omega, gdC, if_pos ((lg_cmp_eq _ _).mp c21)])
        simp only [gcdC, e1]), ht9⟩) (fun _ h => nomatch h) d_ps_greatestDivisor_51
  · refine lv_lload hx hb d_ps_greatestDivisor_17 (lv_at hl 3 rfl) ?_
    refine lv_lconst (v := 0) hx hb d_ps_greatestDivisor_19 (by decide) ?_
    refine W.lcmp hx hb d_ps_greatestDivisor_20 ?_
    refine lv_if_eq (tgt := 45) hx hb d_ps_greatestDivisor_21 (by decide) (fun c21 => ?_) (fun c21 => ?_)
    · refine lv_lconst (v := 1) hx hb d_ps_greatestDivisor_45 (by decide) ?_
      refine lv_lload hx hb d_ps_greatestDivisor_46 (lv_at hl 2 rfl) ?_
      refine va_mmax_long hx hb (hml.trans hl.1.symm) S.2.2.2.1 (S.2.2.2.2 _ tw_450) (S.2.2.2.2 _ tw_451) (S.2.2.2.2 _ tw_3) (S.2.2.2.2 _ tw_452) (Nat.le_of_ble_eq_true rfl) (Nat.le_of_ble_eq_true rfl) (Nat.le_of_ble_eq_true rfl) (Nat.le_of_ble_eq_true rfl) d_ps_greatestDivisor_48 ?_
      exact W.lret hx hb hr (fun t9 ht9 hW9 => ⟨_, rfl, (by
          have e1 : gdC 128 a b = g := by
            rw [hv]
            first | (rw [show 128 - i = 0 by omega]; rfl) | (rw [show 128 - i = (128 - (i + 1)) + 1 by omega, gdC, if_pos ((lg_cmp_eq _ _).mp c21)])
          simp only [gcdC, e1]), ht9⟩) (fun _ h => nomatch h) d_ps_greatestDivisor_51
    · refine lv_lload hx hb d_ps_greatestDivisor_24 (lv_at hl 2 rfl) ?_
      refine lv_lload hx hb d_ps_greatestDivisor_26 (lv_at hl 3 rfl) ?_
      refine lv_lrem hx hb d_ps_greatestDivisor_28 (fun z => c21 ((lg_cmp_eq _ _).mpr z)) ?_
      refine lv_topl (fun x29 e29 => ?_)
      refine lv_lstore (lv' := [(9, .long x29), (0, .long a), (2, .long b), (4, .long g), (6, .long b2), (8, .int (nI i))]) hx hb d_ps_greatestDivisor_29 hl (by decide) rfl (fun ls hl => ?_)
      refine lv_lload hx hb d_ps_greatestDivisor_31 (lv_at hl 4 rfl) ?_
      refine lv_lstore (lv' := [(4, .long b2), (9, .long x29), (0, .long a), (2, .long b), (6, .long b2), (8, .int (nI i))]) hx hb d_ps_greatestDivisor_33 hl (by decide) rfl (fun ls hl => ?_)
      refine lv_lload hx hb d_ps_greatestDivisor_35 (lv_at hl 1 rfl) ?_
      refine lv_lstore (lv' := [(6, .long x29), (4, .long b2), (9, .long x29), (0, .long a), (2, .long b), (8, .int (nI i))]) hx hb d_ps_greatestDivisor_37 hl (by decide) rfl (fun ls hl => ?_)
      refine lv_iinc (v := nI (i + 1)) (lv' := [(8, .int (nI (i + 1))), (6, .long x29), (4, .long b2), (9, .long x29), (0, .long a), (2, .long b)]) hx hb d_ps_greatestDivisor_39 hl (k := 5) rfl (show nI i + 1 = _ from nI_1 i) (by decide) rfl (fun ls hl => ?_)
      refine lv_goto (tgt := 9) hx hb d_ps_greatestDivisor_42 (by decide) ?_
      exact ih9 ((i + 1), b2, x29) _ ⟨⟨by omega, by
          rw [hv, show 128 - i = (128 - (i + 1)) + 1 by omega]
          subst_vars
          rw [gdC, if_neg (fun z => c21 ((lg_cmp_eq _ _).mpr z))]⟩, lv_sub hl [4, 5, 2, 1, 0] rfl⟩ (by first | omega | (simp only []; omega))
