set_option maxHeartbeats 4000000 in
set_option maxRecDepth 100000 in
theorem c_ps_present (l : Launch) (hl9 : l.stackTraces = false) (Z : gZ) (G : gh) (sz : Nat) (x : Nat) {sh ma pa : Nat} {mad fk : Int32} (hx0 : G x = some (.inr (0, [.ref sh, .ref ma, .ref pa, .int mad, .int fk]))) {pt : Nat → Option Nat} {pd : Nat → Pat} (hpa : G pa = some (.inl (Z.2 3, 24, .inr (.inr (.inr (.inr pt)))))) (hpt : ∀ i a, i < 24 → pt i = some a → G a = some (.inr (3, pfs (pd i)))) (n : Int32) : vx_Met l y_ps_present (wd_ps_present :: Gall) ({ frames := 6, cells := 1, slots := 6, locals := 90 }) (va_Pc [.ref x, .int n] (gPx Z G sz)) (va_Sq (fun r : Option Nat => ∃ a j, r = some a ∧ j < 24 ∧ n = nI j ∧ pt j = some a ∧ pgn (pd j) = 0)) (gXC (fun X9 : String => X9 = "java/lang/IndexOutOfBoundsException" ∧ ∀ j, ¬ okP pt pd n j) sz) 1 6 (fun q => sz ≤ q) := by
  refine vx_ofW (cc := b_ps_present) (maxL := 3) (ret := (some (.object "PackSeeds$Pattern"))) (by decide) rfl ?_
  intro p e s m args below meth c s₁ B hml htab hv
  obtain ⟨rfl, hsz, ⟨hG, hE⟩, hX⟩ := hv
  subst hsz
  have hx := B.exec
  have hb := B.bytes
  have hr := B.returns
  have hlocks := B.notSynchronized
  have S : CallFix p m c b_ps_present 3 s _ Gall "PackSeeds" := ⟨hx, hb, hml, findClass_of_methodNamed B.named, fun w hw => atoms_spec (ws := wd_ps_present :: Gall) B.pre w (List.mem_cons_of_mem _ hw)⟩
  have hGS : gS (gA G s.heap.size) s.heap Z.1 cls G s.heap [] := gS.start hG
  have hl := lv_entry ([.ref x, .int n]) (n := 3) (Nat.le_of_ble_eq_true rfl)
  rw [lg_entry_eq]
  generalize (lg_sl ([.ref x, .int n]) ++ List.replicate (3 - (lg_sl ([.ref x, .int n])).length) Slot.unset).toArray = ls at hl ⊢
  have hl : lv_has ls 3 [(0, .ref x), (1, .int n)] := hl
  refine lv_aload_n hx hb d_ps_present_0 rfl (lv_at hl 0 rfl) ?_
  refine lv_iload_n hx hb d_ps_present_1 rfl (lv_at hl 1 rfl) ?_
  refine g_retq (g_runV (As := [.int n]) (rest := []) S lk_ps_65 k_ps_presentOrNull (c_ps_presentOrNull l Z G x hx0 hpa hpt n) ⟨rfl, rfl⟩ ⟨Nat.le_of_ble_eq_true rfl, Nat.le_of_ble_eq_true rfl⟩ (gPreV hG hE hx0 rfl) rfl hl.1 rfl (Nat.le_of_ble_eq_true rfl) d_ps_present_2 ⟨Nat.le_of_ble_eq_true rfl, Nat.le_of_ble_eq_true rfl⟩) (fun r2 h2 => ?_)
  cases r2 with
  | none =>
    refine lv_astore_nN (lv' := [(2, .null), (0, .ref x), (1, .int n)]) hx hb d_ps_present_5 rfl hl (by decide) rfl (fun ls hl => ?_)
    refine lv_aload_nN hx hb d_ps_present_6 rfl (lv_at hl 0 rfl) ?_
    refine lv_ifnonnullN hx hb d_ps_present_7 ?_
    exact g_throw (text := "there is no such pattern, or it is gone") S hE hl9 hX (by decide) (by decide +kernel) tw_256 tw_11 hat_92 hgd_92 (fun _ h => nomatch h) (fun _ h => nomatch h) hl.1 d_ps_present_10 d_ps_present_13 d_ps_present_14 d_ps_present_16 d_ps_present_19 htab (Nat.le_of_ble_eq_true rfl) (Nat.le_of_ble_eq_true rfl) (Nat.le_of_ble_eq_true rfl) (Nat.le_of_ble_eq_true rfl) hlocks ⟨rfl, prI_none h2.symm⟩ (Nat.le_of_ble_eq_true rfl) (Nat.le_of_ble_eq_true rfl)
  | some a2 =>
    refine lv_astore_n (lv' := [(2, .ref a2), (0, .ref x), (1, .int n)]) hx hb d_ps_present_5 rfl hl (by decide) rfl (fun ls hl => ?_)
    refine lv_aload_n hx hb d_ps_present_6 rfl (lv_at hl 0 rfl) ?_
    refine lv_ifnonnull (tgt := 20) hx hb d_ps_present_7 (by decide) ?_
    refine lv_aload_n hx hb d_ps_present_20 rfl (lv_at hl 0 rfl) ?_
    refine W.widen (k := 1) (n := 6) (Nat.le_of_ble_eq_true rfl) (Nat.le_of_ble_eq_true rfl) ?_
    exact vx_ret (W.aret hx hb hr (Or.inl ⟨_, rfl⟩) (va_rf_or (some a2)) (fun t9 ht9 hW9 => ⟨some a2, rfl, (by obtain ⟨j, h⟩ := prI_some h2.symm; exact ⟨a2, j, rfl, h⟩), ht9⟩) (fun _ h => nomatch h) d_ps_present_21)

set_option maxHeartbeats 4000000 in
set_option maxRecDepth 100000 in
theorem c_ps_existingPlace (l : Launch) (hl9 : l.stackTraces = false) (Z : gZ) (G : gh) (sz : Nat) (x : Nat) {sh ma pa : Nat} {mad fk : Int32} (hx0 : G x = some (.inr (0, [.ref sh, .ref ma, .ref pa, .int mad, .int fk]))) {C E : Nat} (hs : G sh = some (.inr (1, [.int (nI C), .int (nI E)]))) (hC : C ≤ 4) (hE8 : E ≤ 8) (c0 e0 : Int32) : vx_Met l y_ps_existingPlace (wd_ps_existingPlace :: Gall) ({ frames := 6, cells := 1, slots := 6, locals := 90 }) (va_Pc [.ref x, .int c0, .int e0] (gPx Z G sz)) (vp_Si (fun r : Int32 => ∃ k j, k < C ∧ j < E ∧ c0 = nI k ∧ e0 = nI j ∧ r = plC (nI k) (nI j))) (gXC (fun X9 : String => X9 = "java/lang/IndexOutOfBoundsException" ∧ ¬ ∃ k j, k < C ∧ j < E ∧ c0 = nI k ∧ e0 = nI j) sz) 1 6 (fun q => sz ≤ q) := by
  refine vx_ofW (cc := b_ps_existingPlace) (maxL := 3) (ret := (some .int)) (by decide) rfl ?_
  intro p e s m args below meth c s₁ B hml htab hv
  obtain ⟨rfl, hsz, ⟨hG, hE⟩, hX⟩ := hv
  subst hsz
  have hx := B.exec
  have hb := B.bytes
  have hr := B.returns
  have hlocks := B.notSynchronized
  have S : CallFix p m c b_ps_existingPlace 3 s _ Gall "PackSeeds" := ⟨hx, hb, hml, findClass_of_methodNamed B.named, fun w hw => atoms_spec (ws := wd_ps_existingPlace :: Gall) B.pre w (List.mem_cons_of_mem _ hw)⟩
  have hGS : gS (gA G s.heap.size) s.heap Z.1 cls G s.heap [] := gS.start hG
  have hl := lv_entry ([.ref x, .int c0, .int e0]) (n := 3) (Nat.le_of_ble_eq_true rfl)
  rw [lg_entry_eq]
  generalize (lg_sl ([.ref x, .int c0, .int e0]) ++ List.replicate (3 - (lg_sl ([.ref x, .int c0, .int e0])).length) Slot.unset).toArray = ls at hl ⊢
  have hl : lv_has ls 3 [(0, .ref x), (1, .int c0), (2, .int e0)] := hl
  refine lv_iload_n hx hb d_ps_existingPlace_0 rfl (lv_at hl 1 rfl) ?_
  refine lv_if_lt (tgt := 30) hx hb d_ps_existingPlace_1 (by decide) (fun c1 => ?_) (fun c1 => ?_)
  · exact g_throw (text := "there is no such chain or cell") S hE hl9 hX (by decide) (by decide +kernel) tw_256 tw_11 hat_92 hgd_92 (fun _ h => nomatch h) (fun _ h => nomatch h) hl.1 d_ps_existingPlace_30 d_ps_existingPlace_33 d_ps_existingPlace_34 d_ps_existingPlace_36 d_ps_existingPlace_39 htab (Nat.le_of_ble_eq_true rfl) (Nat.le_of_ble_eq_true rfl) (Nat.le_of_ble_eq_true rfl) (Nat.le_of_ble_eq_true rfl) hlocks ⟨rfl, by rintro ⟨k, j, hk, hj, e1, e2⟩; subst e1; subst e2; first | exact absurd c1 (nI_pos (by omega)) | exact absurd c12 (nI_ge hk (by omega)) | exact absurd c16 (nI_pos (by omega)) | exact absurd (nI_lt hj (by omega)) c27⟩ (Nat.le_of_ble_eq_true rfl) (Nat.le_of_ble_eq_true rfl)
  · refine lv_iload_n hx hb d_ps_existingPlace_4 rfl (lv_at hl 1 rfl) ?_
    refine lv_aload_n hx hb d_ps_existingPlace_5 rfl (lv_at hl 0 rfl) ?_
    refine g_get S hE.1 hG hx0 rfl in_ps 0 (by decide) tw_68 (fun _ h9 => h9) rfl d_ps_existingPlace_6 ?_
    refine g_getN S hE.1 hG hs rfl in_sh 0 (by decide) (hE.2 _ nw_2) (fun _ h9 => h9) rfl d_ps_existingPlace_9 ?_
    refine lv_icmp_ge (tgt := 30) hx hb d_ps_existingPlace_12 (by decide) (fun c12 => ?_) (fun c12 => ?_)
    · exact g_throw (text := "there is no such chain or cell") S hE hl9 hX (by decide) (by decide +kernel) tw_256 tw_11 hat_92 hgd_92 (fun _ h => nomatch h) (fun _ h => nomatch h) hl.1 d_ps_existingPlace_30 d_ps_existingPlace_33 d_ps_existingPlace_34 d_ps_existingPlace_36 d_ps_existingPlace_39 htab (Nat.le_of_ble_eq_true rfl) (Nat.le_of_ble_eq_true rfl) (Nat.le_of_ble_eq_true rfl) (Nat.le_of_ble_eq_true rfl) hlocks ⟨rfl, by rintro ⟨k, j, hk, hj, e1, e2⟩; subst e1; subst e2; first | exact absurd c1 (nI_pos (by omega)) | exact absurd c12 (nI_ge hk (by omega)) | exact absurd c16 (nI_pos (by omega)) | exact absurd (nI_lt hj (by omega)) c27⟩ (Nat.le_of_ble_eq_true rfl) (Nat.le_of_ble_eq_true rfl)
    · refine lv_iload_n hx hb d_ps_existingPlace_15 rfl (lv_at hl 2 rfl) ?_
      refine lv_if_lt (tgt := 30) hx hb d_ps_existingPlace_16 (by decide) (fun c16 => ?_) (fun c16 => ?_)
      · exact g_throw (text := "there is no such chain or cell") S hE hl9 hX (by decide) (by decide +kernel) tw_256 tw_11 hat_92 hgd_92 (fun _ h => nomatch h) (fun _ h => nomatch h) hl.1 d_ps_existingPlace_30 d_ps_existingPlace_33 d_ps_existingPlace_34 d_ps_existingPlace_36 d_ps_existingPlace_39 htab (Nat.le_of_ble_eq_true rfl) (Nat.le_of_ble_eq_true rfl) (Nat.le_of_ble_eq_true rfl) (Nat.le_of_ble_eq_true rfl) hlocks ⟨rfl, by rintro ⟨k, j, hk, hj, e1, e2⟩; subst e1; subst e2; first | exact absurd c1 (nI_pos (by omega)) | exact absurd c12 (nI_ge hk (by omega)) | exact absurd c16 (nI_pos (by omega)) | exact absurd (nI_lt hj (by omega)) c27⟩ (Nat.le_of_ble_eq_true rfl) (Nat.le_of_ble_eq_true rfl)
      · refine lv_iload_n hx hb d_ps_existingPlace_19 rfl (lv_at hl 2 rfl) ?_
        refine lv_aload_n hx hb d_ps_existingPlace_20 rfl (lv_at hl 0 rfl) ?_
        refine g_get S hE.1 hG hx0 rfl in_ps 0 (by decide) tw_68 (fun _ h9 => h9) rfl d_ps_existingPlace_21 ?_
        refine g_getN S hE.1 hG hs rfl in_sh 1 (by decide) (hE.2 _ nw_4) (fun _ h9 => h9) rfl d_ps_existingPlace_24 ?_
        refine lv_icmp_lt (tgt := 40) hx hb d_ps_existingPlace_27 (by decide) (fun c27 => ?_) (fun c27 => ?_)
        · obtain ⟨k, hk, hck⟩ : ∃ k : Nat, k < C ∧ c0 = nI k := by
            rcases pk_ix c0 (n := C) (by omega) with h9 | h9 | h9
            · exact absurd h9 c1
            · exact absurd h9 c12
            · exact h9
          obtain ⟨j, hj, hej⟩ : ∃ j : Nat, j < E ∧ e0 = nI j := by
            rcases pk_ix e0 (n := E) (by omega) with h9 | h9 | h9
            · exact absurd h9 c16
            · exact absurd c27 (by rw [Int32.lt_iff_toInt_lt]; rw [Int32.le_iff_toInt_le] at h9; omega)
            · exact h9
          subst hck
          subst hej
          refine lv_iload_n hx hb d_ps_existingPlace_40 rfl (lv_at hl 1 rfl) ?_
          refine lv_iload_n hx hb d_ps_existingPlace_41 rfl (lv_at hl 2 rfl) ?_
          refine g_reti (g_runS (As := [.int (nI k), .int (nI j)]) (rest := []) S lk_ps_168 k_ps_place (c_ps_place l Z G (nI k) (nI j)) ⟨rfl, rfl⟩ ⟨Nat.le_of_ble_eq_true rfl, Nat.le_of_ble_eq_true rfl⟩ (gPreS hG hE) rfl hl.1 rfl (Nat.le_of_ble_eq_true rfl) d_ps_existingPlace_42 ⟨Nat.le_of_ble_eq_true rfl, Nat.le_of_ble_eq_true rfl⟩) (fun r42 h42 => ?_)
          refine W.widen (k := 1) (n := 6) (Nat.le_of_ble_eq_true rfl) (Nat.le_of_ble_eq_true rfl) ?_
          exact vx_ret (W.iret hx hb hr (fun t9 ht9 hW9 => ⟨_, rfl, ⟨k, j, hk, hj, rfl, rfl, h42⟩, ht9⟩) (fun _ h => nomatch h) d_ps_existingPlace_45)
        · exact g_throw (text := "there is no such chain or cell") S hE hl9 hX (by decide) (by decide +kernel) tw_256 tw_11 hat_92 hgd_92 (fun _ h => nomatch h) (fun _ h => nomatch h) hl.1 d_ps_existingPlace_30 d_ps_existingPlace_33 d_ps_existingPlace_34 d_ps_existingPlace_36 d_ps_existingPlace_39 htab (Nat.le_of_ble_eq_true rfl) (Nat.le_of_ble_eq_true rfl) (Nat.le_of_ble_eq_true rfl) (Nat.le_of_ble_eq_true rfl) hlocks ⟨rfl, by rintro ⟨k, j, hk, hj, e1, e2⟩; subst e1; subst e2; first | exact absurd c1 (nI_pos (by omega)) | exact absurd c12 (nI_ge hk (by omega)) | exact absurd c16 (nI_pos (by omega)) | exact absurd (nI_lt hj (by omega)) c27⟩ (Nat.le_of_ble_eq_true rfl) (Nat.le_of_ble_eq_true rfl)

set_option maxHeartbeats 4000000 in
set_option maxRecDepth 100000 in
theorem c_ps_existingFault (l : Launch) (hl9 : l.stackTraces = false) (Z : gZ) (G : gh) (sz : Nat) (f0 : Int32) : vx_Met l y_ps_existingFault (wd_ps_existingFault :: Gall) ({ frames := 6, cells := 1, slots := 6, locals := 90 }) (va_Pc [.int f0] (gPx Z G sz)) (vp_Si (fun r : Int32 => ∃ k, k < 31 ∧ f0 = nI k ∧ r = (1 : Int32) <<< (nI k &&& 31))) (gXC (fun X9 : String => X9 = "java/lang/IndexOutOfBoundsException" ∧ ¬ ∃ k, k < 31 ∧ f0 = nI k) sz) 1 6 (fun q => sz ≤ q) := by
  refine vx_ofW (cc := b_ps_existingFault) (maxL := 1) (ret := (some .int)) (by decide) rfl ?_
  intro p e s m args below meth c s₁ B hml htab hv
  obtain ⟨rfl, hsz, ⟨hG, hE⟩, hX⟩ := hv
  subst hsz
  have hx := B.exec
  have hb := B.bytes
  have hr := B.returns
  have hlocks := B.notSynchronized
  have S : CallFix p m c b_ps_existingFault 1 s _ Gall "PackSeeds" := ⟨hx, hb, hml, findClass_of_methodNamed B.named, fun w hw => atoms_spec (ws := wd_ps_existingFault :: Gall) B.pre w (List.mem_cons_of_mem _ hw)⟩
  have hGS : gS (gA G s.heap.size) s.heap Z.1 cls G s.heap [] := gS.start hG
  have hl := lv_entry ([.int f0]) (n := 1) (Nat.le_of_ble_eq_true rfl)
  rw [lg_entry_eq]
  generalize (lg_sl ([.int f0]) ++ List.replicate (1 - (lg_sl ([.int f0])).length) Slot.unset).toArray = ls at hl ⊢
  have hl : lv_has ls 1 [(0, .int f0)] := hl
  refine lv_iload_n hx hb d_ps_existingFault_0 rfl (lv_at hl 0 rfl) ?_
  refine lv_if_lt (tgt := 10) hx hb d_ps_existingFault_1 (by decide) (fun c1 => ?_) (fun c1 => ?_)
  · exact g_throw (text := "there is no such fault") S hE hl9 hX (by decide) (by decide +kernel) tw_256 tw_11 hat_92 hgd_92 (fun _ h => nomatch h) (fun _ h => nomatch h) hl.1 d_ps_existingFault_10 d_ps_existingFault_13 d_ps_existingFault_14 d_ps_existingFault_16 d_ps_existingFault_19 htab (Nat.le_of_ble_eq_true rfl) (Nat.le_of_ble_eq_true rfl) (Nat.le_of_ble_eq_true rfl) (Nat.le_of_ble_eq_true rfl) hlocks ⟨rfl, by rintro ⟨k, hk, e1⟩; subst e1; first | exact absurd c1 (nI_pos (by omega)) | exact absurd (nI_lt hk (by omega)) c7⟩ (Nat.le_of_ble_eq_true rfl) (Nat.le_of_ble_eq_true rfl)
  · refine lv_iload_n hx hb d_ps_existingFault_4 rfl (lv_at hl 0 rfl) ?_
    refine lv_bipush (v := nI 31) hx hb d_ps_existingFault_5 (by decide) ?_
    refine lv_icmp_lt (tgt := 20) hx hb d_ps_existingFault_7 (by decide) (fun c7 => ?_) (fun c7 => ?_)
    · obtain ⟨k, hk, hck⟩ : ∃ k : Nat, k < 31 ∧ f0 = nI k := by
        rcases pk_ix f0 (n := 31) (by omega) with h9 | h9 | h9
        · exact absurd h9 c1
        · exact absurd c7 (by rw [Int32.lt_iff_toInt_lt]; rw [Int32.le_iff_toInt_le] at h9; omega)
        · exact h9
      subst hck
      refine lv_iconst (v := 1) hx hb d_ps_existingFault_20 (by decide) ?_
      refine lv_iload_n hx hb d_ps_existingFault_21 rfl (lv_at hl 0 rfl) ?_
      refine lv_ishl hx hb d_ps_existingFault_22 ?_
      refine W.widen (k := 1) (n := 6) (Nat.le_of_ble_eq_true rfl) (Nat.le_of_ble_eq_true rfl) ?_
      exact vx_ret (W.iret hx hb hr (fun t9 ht9 hW9 => ⟨_, rfl, ⟨k, hk, rfl, rfl⟩, ht9⟩) (fun _ h => nomatch h) d_ps_existingFault_23)
    · exact g_throw (text := "there is no such fault") S hE hl9 hX (by decide) (by decide +kernel) tw_256 tw_11 hat_92 hgd_92 (fun _ h => nomatch h) (fun _ h => nomatch h) hl.1 d_ps_existingFault_10 d_ps_existingFault_13 d_ps_existingFault_14 d_ps_existingFault_16 d_ps_existingFault_19 htab (Nat.le_of_ble_eq_true rfl) (Nat.le_of_ble_eq_true rfl) (Nat.le_of_ble_eq_true rfl) (Nat.le_of_ble_eq_true rfl) hlocks ⟨rfl, by rintro ⟨k, hk, e1⟩; subst e1; first | exact absurd c1 (nI_pos (by omega)) | exact absurd (nI_lt hk (by omega)) c7⟩ (Nat.le_of_ble_eq_true rfl) (Nat.le_of_ble_eq_true rfl)

set_option maxHeartbeats 4000000 in
set_option maxRecDepth 100000 in
theorem c_ps_seedOf (l : Launch) (hl9 : l.stackTraces = false) (Z : gZ) (G : gh) (sz : Nat) (x : Nat) {sh ma pa : Nat} {mad fk : Int32} (hx0 : G x = some (.inr (0, [.ref sh, .ref ma, .ref pa, .int mad, .int fk]))) {pt : Nat → Option Nat} {pd : Nat → Pat} (hpa : G pa = some (.inl (Z.2 3, 24, .inr (.inr (.inr (.inr pt)))))) (hpt : ∀ i a, i < 24 → pt i = some a → G a = some (.inr (3, pfs (pd i)))) (n : Int32) : vx_Met l y_ps_seedOf (wd_ps_seedOf :: Gall) ({ frames := 7, cells := 1, slots := 6, locals := 112 }) (va_Pc [.ref x, .int n] (gPx Z G sz)) (vp_Si (fun r : Int32 => ∃ j, okP pt pd n j ∧ r = psd (pd j))) (gXC (fun X9 : String => X9 = "java/lang/IndexOutOfBoundsException" ∧ ∀ j, ¬ okP pt pd n j) sz) 1 6 (fun q => sz ≤ q) := by
  refine vx_ofW (cc := b_ps_seedOf) (maxL := 2) (ret := (some .int)) (by decide) rfl ?_
  intro p e s m args below meth c s₁ B hml htab hv
  obtain ⟨rfl, hsz, ⟨hG, hE⟩, hX⟩ := hv
  subst hsz
  have hx := B.exec
  have hb := B.bytes
  have hr := B.returns
  have hlocks := B.notSynchronized
  have S : CallFix p m c b_ps_seedOf 2 s _ Gall "PackSeeds" := ⟨hx, hb, hml, findClass_of_methodNamed B.named, fun w hw => atoms_spec (ws := wd_ps_seedOf :: Gall) B.pre w (List.mem_cons_of_mem _ hw)⟩
  have hGS : gS (gA G s.heap.size) s.heap Z.1 cls G s.heap [] := gS.start hG
  have hl := lv_entry ([.ref x, .int n]) (n := 2) (Nat.le_of_ble_eq_true rfl)
  rw [lg_entry_eq]
  generalize (lg_sl ([.ref x, .int n]) ++ List.replicate (2 - (lg_sl ([.ref x, .int n])).length) Slot.unset).toArray = ls at hl ⊢
  have hl : lv_has ls 2 [(0, .ref x), (1, .int n)] := hl
  refine lv_aload_n hx hb d_ps_seedOf_0 rfl (lv_at hl 0 rfl) ?_
  refine lv_iload_n hx hb d_ps_seedOf_1 rfl (lv_at hl 1 rfl) ?_
  refine g_xretq (Nat.le_refl _) (g_xrunV (As := [.int n]) (rest := []) S lk_ps_48 k_ps_present (c_ps_present l hl9 Z G s.heap.size x hx0 hpa hpt n) ⟨rfl, rfl⟩ ⟨(Nat.le_of_ble_eq_true rfl), (Nat.le_of_ble_eq_true rfl)⟩ (gPxV hGS hE hX hx0 rfl) rfl hl.1 rfl (Nat.le_of_ble_eq_true rfl) d_ps_seedOf_2 ⟨(Nat.le_of_ble_eq_true rfl), (Nat.le_of_ble_eq_true rfl)⟩) (g_out htab hlocks (fun E h => h) (fun _ h => nomatch h) (Nat.le_of_ble_eq_true rfl) (Nat.le_of_ble_eq_true rfl)) (fun r2 h2 => ?_)
  obtain ⟨a2, j, hr2, hj, hnj, hpj, hgj⟩ := h2
  subst hr2
  refine g_getN S hE.1 hG (hpt j a2 hj hpj) rfl in_pt 4 (by decide) (hE.2 _ nw_22) (fun _ h9 => h9) rfl d_ps_seedOf_5 ?_
  refine W.widen (k := 1) (n := 6) (Nat.le_of_ble_eq_true rfl) (Nat.le_of_ble_eq_true rfl) ?_
  exact vx_ret (W.iret hx hb hr (fun t9 ht9 hW9 => ⟨_, rfl, ⟨j, (okP_of hj hnj hpj hgj), rfl⟩, ht9⟩) (fun _ h => nomatch h) d_ps_seedOf_8)

set_option maxHeartbeats 4000000 in
set_option maxRecDepth 100000 in
theorem c_ps_bit (l : Launch) (hl9 : l.stackTraces = false) (Z : gZ) (G : gh) (sz : Nat) (x : Nat) {sh ma pa : Nat} {mad fk : Int32} (hx0 : G x = some (.inr (0, [.ref sh, .ref ma, .ref pa, .int mad, .int fk]))) {C E : Nat} (hs : G sh = some (.inr (1, [.int (nI C), .int (nI E)]))) (hC : C ≤ 4) (hE8 : E ≤ 8) {ro : Nat} {stg tp : Int32} (hm : G ma = some (.inr (2, [.ref sh, .ref ro, .int stg, .int tp]))) {pt : Nat → Option Nat} {pd : Nat → Pat} (hpa : G pa = some (.inl (Z.2 3, 24, .inr (.inr (.inr (.inr pt)))))) (hpt : ∀ i a, i < 24 → pt i = some a → G a = some (.inr (3, pfs (pd i)))) (n c0 e0 : Int32) : vx_Met l y_ps_bit (wd_ps_bit :: Gall) ({ frames := 7, cells := 2, slots := 12, locals := 112 }) (va_Pc [.ref x, .int n, .int c0, .int e0] (gPx Z G sz)) (vp_Si (fun r : Int32 => ∃ j k q, okP pt pd n j ∧ k < C ∧ q < E ∧ c0 = nI k ∧ e0 = nI q ∧ r = if bitsC stg tp fk C E (pd j) &&& plC (nI k) (nI q) = 0 then 0 else 1)) (gXC (fun X9 : String => X9 = "java/lang/IndexOutOfBoundsException" ∧ ((∀ j, ¬ okP pt pd n j) ∨ ¬ ∃ k j, k < C ∧ j < E ∧ c0 = nI k ∧ e0 = nI j)) sz) 2 12 (fun q => sz ≤ q) := by
  refine vx_ofW (cc := b_ps_bit) (maxL := 6) (ret := (some .int)) (by decide) rfl ?_
  intro p e s m args below meth c s₁ B hml htab hv
  obtain ⟨rfl, hsz, ⟨hG, hE⟩, hX⟩ := hv
  subst hsz
  have hx := B.exec
  have hb := B.bytes
  have hr := B.returns
  have hlocks := B.notSynchronized
  have S : CallFix p m c b_ps_bit 6 s _ Gall "PackSeeds" := ⟨hx, hb, hml, findClass_of_methodNamed B.named, fun w hw => atoms_spec (ws := wd_ps_bit :: Gall) B.pre w (List.mem_cons_of_mem _ hw)⟩
  have hGS : gS (gA G s.heap.size) s.heap Z.1 cls G s.heap [] := gS.start hG
  have hl := lv_entry ([.ref x, .int n, .int c0, .int e0]) (n := 6) (Nat.le_of_ble_eq_true rfl)
  rw [lg_entry_eq]
  generalize (lg_sl ([.ref x, .int n, .int c0, .int e0]) ++ List.replicate (6 - (lg_sl ([.ref x, .int n, .int c0, .int e0])).length) Slot.unset).toArray = ls at hl ⊢
  have hl : lv_has ls 6 [(0, .ref x), (1, .int n), (2, .int c0), (3, .int e0)] := hl
  refine lv_aload_n hx hb d_ps_bit_0 rfl (lv_at hl 0 rfl) ?_
  refine lv_iload_n hx hb d_ps_bit_1 rfl (lv_at hl 1 rfl) ?_
  refine g_xretq (Nat.le_refl _) (g_xrunV (As := [.int n]) (rest := []) S lk_ps_48 k_ps_present (c_ps_present l hl9 Z G s.heap.size x hx0 hpa hpt n) ⟨rfl, rfl⟩ ⟨(Nat.le_of_ble_eq_true rfl), (Nat.le_of_ble_eq_true rfl)⟩ (gPxV hGS hE hX hx0 rfl) rfl hl.1 rfl (Nat.le_of_ble_eq_true rfl) d_ps_bit_2 ⟨(Nat.le_of_ble_eq_true rfl), (Nat.le_of_ble_eq_true rfl)⟩) (g_out htab hlocks (fun E h => ⟨h.1, Or.inl h.2⟩) (fun _ h => nomatch h) (Nat.le_of_ble_eq_true rfl) (Nat.le_of_ble_eq_true rfl)) (fun r2 h2 => ?_)
  obtain ⟨a2, j, hr2, hj, hnj, hpj, hgj⟩ := h2
  subst hr2
  refine lv_astore (lv' := [(4, .ref a2), (0, .ref x), (1, .int n), (2, .int c0), (3, .int e0)]) hx hb d_ps_bit_5 hl (by decide) rfl (fun ls hl => ?_)
  refine lv_aload_n hx hb d_ps_bit_7 rfl (lv_at hl 1 rfl) ?_
  refine lv_iload_n hx hb d_ps_bit_8 rfl (lv_at hl 3 rfl) ?_
  refine lv_iload_n hx hb d_ps_bit_9 rfl (lv_at hl 4 rfl) ?_
  refine g_xreti (Nat.le_refl _) (g_xrunV (As := [.int c0, .int e0]) (rest := []) S lk_ps_52 k_ps_existingPlace (c_ps_existingPlace l hl9 Z G s.heap.size x hx0 hs hC hE8 c0 e0) ⟨rfl, rfl⟩ ⟨(Nat.le_of_ble_eq_true rfl), (Nat.le_of_ble_eq_true rfl)⟩ (gPxV hGS hE hX hx0 rfl) rfl hl.1 rfl (Nat.le_of_ble_eq_true rfl) d_ps_bit_10 ⟨(Nat.le_of_ble_eq_true rfl), (Nat.le_of_ble_eq_true rfl)⟩) (g_out htab hlocks (fun E h => ⟨h.1, Or.inr h.2⟩) (fun _ h => nomatch h) (Nat.le_of_ble_eq_true rfl) (Nat.le_of_ble_eq_true rfl)) (fun r10 h10 => ?_)
  obtain ⟨k, q, hk, hq, hck, heq, hr10⟩ := h10
  refine lv_istore (lv' := [(5, .int r10), (4, .ref a2), (0, .ref x), (1, .int n), (2, .int c0), (3, .int e0)]) hx hb d_ps_bit_13 hl (by decide) rfl (fun ls hl => ?_)
  refine lv_aload_n hx hb d_ps_bit_15 rfl (lv_at hl 2 rfl) ?_
  refine lv_aload hx hb d_ps_bit_16 (lv_at hl 1 rfl) ?_
  refine g_reti (g_runV (As := [.ref a2]) (rest := []) S lk_ps_114 k_ps_bitsOf (c_ps_bitsOf l Z G x hx0 hs hC hE8 hm a2 (hpt j a2 hj hpj)) ⟨rfl, rfl⟩ ⟨Nat.le_of_ble_eq_true rfl, Nat.le_of_ble_eq_true rfl⟩ (gPreV hG hE hx0 rfl) rfl hl.1 rfl (Nat.le_of_ble_eq_true rfl) d_ps_bit_18 ⟨Nat.le_of_ble_eq_true rfl, Nat.le_of_ble_eq_true rfl⟩) (fun r18 h18 => ?_)
  refine lv_iload hx hb d_ps_bit_21 (lv_at hl 0 rfl) ?_
  refine lv_iand hx hb d_ps_bit_23 ?_
  refine lv_if_eq (tgt := 31) hx hb d_ps_bit_24 (by decide) (fun c24 => ?_) (fun c24 => ?_)
  · refine lv_iconst (v := 0) hx hb d_ps_bit_31 (by decide) ?_
    refine W.widen (k := 2) (n := 12) (Nat.le_of_ble_eq_true rfl) (Nat.le_of_ble_eq_true rfl) ?_
    exact vx_ret (W.iret hx hb hr (fun t9 ht9 hW9 => ⟨_, rfl, ⟨j, k, q, (okP_of hj hnj hpj hgj), hk, hq, hck, heq, by rw [h18, hr10] at c24; simp [c24]⟩, ht9⟩) (fun _ h => nomatch h) d_ps_bit_32)
  · refine lv_iconst (v := 1) hx hb d_ps_bit_27 (by decide) ?_
    refine lv_goto (tgt := 32) hx hb d_ps_bit_28 (by decide) ?_
    refine W.widen (k := 2) (n := 12) (Nat.le_of_ble_eq_true rfl) (Nat.le_of_ble_eq_true rfl) ?_
    exact vx_ret (W.iret hx hb hr (fun t9 ht9 hW9 => ⟨_, rfl, ⟨j, k, q, (okP_of hj hnj hpj hgj), hk, hq, hck, heq, by rw [h18, hr10] at c24; simp [c24]⟩, ht9⟩) (fun _ h => nomatch h) d_ps_bit_32)

set_option maxHeartbeats 4000000 in
set_option maxRecDepth 100000 in
theorem c_ps_finders (l : Launch) (hl9 : l.stackTraces = false) (Z : gZ) (G : gh) (sz : Nat) (x : Nat) {sh ma pa : Nat} {mad fk : Int32} (hx0 : G x = some (.inr (0, [.ref sh, .ref ma, .ref pa, .int mad, .int fk]))) {pt : Nat → Option Nat} {pd : Nat → Pat} (hpa : G pa = some (.inl (Z.2 3, 24, .inr (.inr (.inr (.inr pt)))))) (hpt : ∀ i a, i < 24 → pt i = some a → G a = some (.inr (3, pfs (pd i)))) (f0 : Int32) : vx_Met l y_ps_finders (wd_ps_finders :: Gall) ({ frames := 7, cells := 1, slots := 6, locals := 110 }) (va_Pc [.ref x, .int f0] (gPx Z G sz)) (vp_Si (fun r : Int32 => ∃ f, f < 31 ∧ f0 = nI f ∧ r = nI (cntF pt pd ((1 : Int32) <<< (nI f &&& 31)) 24))) (gXC (fun X9 : String => X9 = "java/lang/IndexOutOfBoundsException" ∧ ¬ ∃ k, k < 31 ∧ f0 = nI k) sz) 1 6 (fun q => sz ≤ q) := by
  refine vx_ofW (cc := b_ps_finders) (maxL := 6) (ret := (some .int)) (by decide) rfl ?_
  intro p e s m args below meth c s₁ B hml htab hv
  obtain ⟨rfl, hsz, ⟨hG, hE⟩, hX⟩ := hv
  subst hsz
  have hx := B.exec
  have hb := B.bytes
  have hr := B.returns
  have hlocks := B.notSynchronized
  have S : CallFix p m c b_ps_finders 6 s _ Gall "PackSeeds" := ⟨hx, hb, hml, findClass_of_methodNamed B.named, fun w hw => atoms_spec (ws := wd_ps_finders :: Gall) B.pre w (List.mem_cons_of_mem _ hw)⟩
  have hGS : gS (gA G s.heap.size) s.heap Z.1 cls G s.heap [] := gS.start hG
  have hl := lv_entry ([.ref x, .int f0]) (n := 6) (Nat.le_of_ble_eq_true rfl)
  rw [lg_entry_eq]
  generalize (lg_sl ([.ref x, .int f0]) ++ List.replicate (6 - (lg_sl ([.ref x, .int f0])).length) Slot.unset).toArray = ls at hl ⊢
  have hl : lv_has ls 6 [(0, .ref x), (1, .int f0)] := hl
  refine lv_iload_n hx hb d_ps_finders_0 rfl (lv_at hl 1 rfl) ?_
  refine g_xreti (Nat.le_refl _) (g_xrunS (As := [.int f0]) (rest := []) S lk_ps_118 k_ps_existingFault (c_ps_existingFault l hl9 Z G s.heap.size f0) ⟨rfl, rfl⟩ ⟨(Nat.le_of_ble_eq_true rfl), (Nat.le_of_ble_eq_true rfl)⟩ (gPxS hGS hE hX) rfl hl.1 rfl (Nat.le_of_ble_eq_true rfl) d_ps_finders_1 ⟨(Nat.le_of_ble_eq_true rfl), (Nat.le_of_ble_eq_true rfl)⟩) (g_out htab hlocks (fun E h => h) (fun _ h => nomatch h) (Nat.le_of_ble_eq_true rfl) (Nat.le_of_ble_eq_true rfl)) (fun r1 h1 => ?_)
  obtain ⟨f, hf, hff, hr1⟩ := h1
  refine lv_istore_n (lv' := [(2, .int r1), (0, .ref x), (1, .int f0)]) hx hb d_ps_finders_4 rfl hl (by decide) rfl (fun ls hl => ?_)
  refine lv_iconst (v := nI 0) hx hb d_ps_finders_5 (by decide) ?_
  refine lv_istore_n (lv' := [(3, .int (nI 0)), (2, .int r1), (0, .ref x), (1, .int f0)]) hx hb d_ps_finders_6 rfl hl (by decide) rfl (fun ls hl => ?_)
  refine lv_iconst (v := nI 0) hx hb d_ps_finders_7 (by decide) ?_
  refine lv_istore (lv' := [(4, .int (nI 0)), (3, .int (nI 0)), (2, .int r1), (0, .ref x), (1, .int f0)]) hx hb d_ps_finders_8 hl (by decide) rfl (fun ls hl => ?_)
  refine g_ind (V := Nat × Nat) (fun (i, n) ls => (i ≤ 24 ∧ n = cntF pt pd r1 i) ∧ lv_has ls 6 [(0, .ref x), (1, .int f0), (2, .int r1), (3, .int (nI n)), (4, .int (nI i))]) (fun (i, n) => 24 - i) ?_ (0, 0) _ ⟨⟨Nat.zero_le _, rfl⟩, lv_sub hl [3, 4, 2, 1, 0] rfl⟩
  intro v ls hI ih10
  obtain ⟨i, n⟩ := v
  obtain ⟨⟨hi, hn⟩, hl⟩ := hI
  refine lv_iload hx hb d_ps_finders_10 (lv_at hl 4 rfl) ?_
  refine lv_aload_n hx hb d_ps_finders_12 rfl (lv_at hl 0 rfl) ?_
  refine g_get S hE.1 hG hx0 rfl in_ps 2 (by decide) tw_70 (fun _ h9 => h9) rfl d_ps_finders_13 ?_
  refine g_alen S hE.1 hG hpa 3 rfl (v := nI 24) rfl d_ps_finders_16 ?_
  refine g_ge (tgt := 52) hx hb d_ps_finders_17 (by decide) (by omega) (by omega) (fun c17 => ?_) (fun c17 => ?_)
  · refine lv_iload_n hx hb d_ps_finders_52 rfl (lv_at hl 3 rfl) ?_
    refine W.widen (k := 1) (n := 6) (Nat.le_of_ble_eq_true rfl) (Nat.le_of_ble_eq_true rfl) ?_
    exact vx_ret (W.iret hx hb hr (fun t9 ht9 hW9 => ⟨_, rfl, ⟨f, hf, hff, by rw [hn, show i = 24 by omega, hr1]⟩, ht9⟩) (fun _ h => nomatch h) d_ps_finders_53)
  · refine lv_aload_n hx hb d_ps_finders_20 rfl (lv_at hl 0 rfl) ?_
    refine lv_iload hx hb d_ps_finders_21 (lv_at hl 4 rfl) ?_
    refine g_retq (g_runV (As := [.int (nI i)]) (rest := []) S lk_ps_65 k_ps_presentOrNull (c_ps_presentOrNull l Z G x hx0 hpa hpt (nI i)) ⟨rfl, rfl⟩ ⟨Nat.le_of_ble_eq_true rfl, Nat.le_of_ble_eq_true rfl⟩ (gPreV hG hE hx0 rfl) rfl hl.1 rfl (Nat.le_of_ble_eq_true rfl) d_ps_finders_23 ⟨Nat.le_of_ble_eq_true rfl, Nat.le_of_ble_eq_true rfl⟩) (fun r23 h23 => ?_)
    cases r23 with
    | none =>
      refine lv_astoreN (lv' := [(5, .null), (0, .ref x), (1, .int f0), (2, .int r1), (3, .int (nI n)), (4, .int (nI i))]) hx hb d_ps_finders_26 hl (by decide) rfl (fun ls hl => ?_)
      refine lv_aloadN hx hb d_ps_finders_28 (lv_at hl 0 rfl) ?_
      refine lv_ifnullN (tgt := 46) hx hb d_ps_finders_30 (by decide) ?_
      refine lv_iinc (v := nI (i + 1)) (lv' := [(4, .int (nI (i + 1))), (5, .null), (0, .ref x), (1, .int f0), (2, .int r1), (3, .int (nI n))]) hx hb d_ps_finders_46 hl (k := 5) rfl (show nI i + 1 = _ from nI_1 i) (by decide) rfl (fun ls hl => ?_)
      refine lv_goto (tgt := 10) hx hb d_ps_finders_49 (by decide) ?_
      exact ih10 ((i + 1), n) _ ⟨⟨by omega, by subst hn; simp only [cntF, itr_s]; first | (rw [prI_nat _ _ (by omega)] at h23; simp [← h23]; done) | simp [← h23, c40]⟩, lv_sub hl [2, 3, 4, 5, 0] rfl⟩ (by first | omega | (simp only []; omega))
    | some a23 =>
      rw [prI_nat _ _ (by omega)] at h23
      obtain ⟨p23, g23⟩ := prN_some h23
      refine lv_astore (lv' := [(5, .ref a23), (0, .ref x), (1, .int f0), (2, .int r1), (3, .int (nI n)), (4, .int (nI i))]) hx hb d_ps_finders_26 hl (by decide) rfl (fun ls hl => ?_)
      refine lv_aload hx hb d_ps_finders_28 (lv_at hl 0 rfl) ?_
      refine lv_ifnull hx hb d_ps_finders_30 ?_
      refine lv_aload hx hb d_ps_finders_33 (lv_at hl 0 rfl) ?_
      refine g_getN S hE.1 hG (hpt i a23 (by omega) p23) rfl in_pt 3 (by decide) (hE.2 _ nw_21) (fun _ h9 => h9) rfl d_ps_finders_35 ?_
      refine lv_iload_n hx hb d_ps_finders_38 rfl (lv_at hl 3 rfl) ?_
      refine lv_iand hx hb d_ps_finders_39 ?_
      refine lv_if_eq (tgt := 46) hx hb d_ps_finders_40 (by decide) (fun c40 => ?_) (fun c40 => ?_)
      · refine lv_iinc (v := nI (i + 1)) (lv' := [(4, .int (nI (i + 1))), (5, .ref a23), (0, .ref x), (1, .int f0), (2, .int r1), (3, .int (nI n))]) hx hb d_ps_finders_46 hl (k := 5) rfl (show nI i + 1 = _ from nI_1 i) (by decide) rfl (fun ls hl => ?_)
        refine lv_goto (tgt := 10) hx hb d_ps_finders_49 (by decide) ?_
        exact ih10 ((i + 1), n) _ ⟨⟨by omega, by subst hn; simp only [cntF, itr_s]; first | (rw [prI_nat _ _ (by omega)] at h23; simp [← h23]; done) | simp [← h23, c40]⟩, lv_sub hl [2, 3, 4, 5, 0] rfl⟩ (by first | omega | (simp only []; omega))
      · refine lv_iinc (v := nI (n + 1)) (lv' := [(3, .int (nI (n + 1))), (5, .ref a23), (0, .ref x), (1, .int f0), (2, .int r1), (4, .int (nI i))]) hx hb d_ps_finders_43 hl (k := 4) rfl (show nI n + 1 = _ from nI_1 n) (by decide) rfl (fun ls hl => ?_)
        refine lv_iinc (v := nI (i + 1)) (lv' := [(4, .int (nI (i + 1))), (3, .int (nI (n + 1))), (5, .ref a23), (0, .ref x), (1, .int f0), (2, .int r1)]) hx hb d_ps_finders_46 hl (k := 5) rfl (show nI i + 1 = _ from nI_1 i) (by decide) rfl (fun ls hl => ?_)
        refine lv_goto (tgt := 10) hx hb d_ps_finders_49 (by decide) ?_
        exact ih10 ((i + 1), (n + 1)) _ ⟨⟨by omega, by subst hn; simp only [cntF, itr_s]; first | (rw [prI_nat _ _ (by omega)] at h23; simp [← h23]; done) | simp [← h23, c40]⟩, lv_sub hl [3, 4, 5, 1, 0] rfl⟩ (by first | omega | (simp only []; omega))

set_option maxHeartbeats 4000000 in
set_option maxRecDepth 100000 in
theorem c_ps_shifts (l : Launch) (hl9 : l.stackTraces = false) (Z : gZ) (G : gh) (sz : Nat) (x : Nat) {sh ma pa : Nat} {mad fk : Int32} (hx0 : G x = some (.inr (0, [.ref sh, .ref ma, .ref pa, .int mad, .int fk]))) {C E : Nat} (hs : G sh = some (.inr (1, [.int (nI C), .int (nI E)]))) (hC : C ≤ 4) (hE8 : E ≤ 8) {ro : Nat} {stg tp : Int32} (hm : G ma = some (.inr (2, [.ref sh, .ref ro, .int stg, .int tp]))) {pt : Nat → Option Nat} {pd : Nat → Pat} (hpa : G pa = some (.inl (Z.2 3, 24, .inr (.inr (.inr (.inr pt)))))) (hpt : ∀ i a, i < 24 → pt i = some a → G a = some (.inr (3, pfs (pd i)))) (n : Int32) : vx_Met l y_ps_shifts (wd_ps_shifts :: Gall) ({ frames := 7, cells := 1, slots := 6, locals := 112 }) (va_Pc [.ref x, .int n] (gPx Z G sz)) (vp_Sl (fun r : Int64 => ∃ j, okP pt pd n j ∧ r = shC (bitsC stg tp fk C E (pd j)) E C)) (gXC (fun X9 : String => X9 = "java/lang/IndexOutOfBoundsException" ∧ ∀ j, ¬ okP pt pd n j) sz) 1 6 (fun q => sz ≤ q) := by
  refine vx_ofW (cc := b_ps_shifts) (maxL := 9) (ret := (some .long)) (by decide) rfl ?_
  intro p e s m args below meth c s₁ B hml htab hv
  obtain ⟨rfl, hsz, ⟨hG, hE⟩, hX⟩ := hv
  subst hsz
  have hx := B.exec
  have hb := B.bytes
  have hr := B.returns
  have hlocks := B.notSynchronized
  have S : CallFix p m c b_ps_shifts 9 s _ Gall "PackSeeds" := ⟨hx, hb, hml, findClass_of_methodNamed B.named, fun w hw => atoms_spec (ws := wd_ps_shifts :: Gall) B.pre w (List.mem_cons_of_mem _ hw)⟩
  have hGS : gS (gA G s.heap.size) s.heap Z.1 cls G s.heap [] := gS.start hG
  have hl := lv_entry ([.ref x, .int n]) (n := 9) (Nat.le_of_ble_eq_true rfl)
  rw [lg_entry_eq]
  generalize (lg_sl ([.ref x, .int n]) ++ List.replicate (9 - (lg_sl ([.ref x, .int n])).length) Slot.unset).toArray = ls at hl ⊢
  have hl : lv_has ls 9 [(0, .ref x), (1, .int n)] := hl
  refine lv_aload_n hx hb d_ps_shifts_0 rfl (lv_at hl 0 rfl) ?_
  refine lv_aload_n hx hb d_ps_shifts_1 rfl (lv_at hl 0 rfl) ?_
  refine lv_iload_n hx hb d_ps_shifts_2 rfl (lv_at hl 1 rfl) ?_
  refine g_xretq (Nat.le_refl _) (g_xrunV (As := [.int n]) (rest := [.ref x]) S lk_ps_48 k_ps_present (c_ps_present l hl9 Z G s.heap.size x hx0 hpa hpt n) ⟨rfl, rfl⟩ ⟨(Nat.le_of_ble_eq_true rfl), (Nat.le_of_ble_eq_true rfl)⟩ (gPxV hGS hE hX hx0 rfl) rfl hl.1 rfl (Nat.le_of_ble_eq_true rfl) d_ps_shifts_3 ⟨(Nat.le_of_ble_eq_true rfl), (Nat.le_of_ble_eq_true rfl)⟩) (g_out htab hlocks (fun E h => h) (fun _ h => nomatch h) (Nat.le_of_ble_eq_true rfl) (Nat.le_of_ble_eq_true rfl)) (fun r3 h3 => ?_)
  obtain ⟨a3, j, hr3, hj, hnj, hpj, hgj⟩ := h3
  subst hr3
  refine g_reti (g_runV (As := [.ref a3]) (rest := []) S lk_ps_114 k_ps_bitsOf (c_ps_bitsOf l Z G x hx0 hs hC hE8 hm a3 (hpt j a3 hj hpj)) ⟨rfl, rfl⟩ ⟨Nat.le_of_ble_eq_true rfl, Nat.le_of_ble_eq_true rfl⟩ (gPreV hG hE hx0 rfl) rfl hl.1 rfl (Nat.le_of_ble_eq_true rfl) d_ps_shifts_6 ⟨Nat.le_of_ble_eq_true rfl, Nat.le_of_ble_eq_true rfl⟩) (fun r6 h6 => ?_)
  refine lv_istore_n (lv' := [(2, .int r6), (0, .ref x), (1, .int n)]) hx hb d_ps_shifts_9 rfl hl (by decide) rfl (fun ls hl => ?_)
  refine lv_lconst (v := 0) hx hb d_ps_shifts_10 (by decide) ?_
  refine lv_lstore_n (lv' := [(3, .long 0), (2, .int r6), (0, .ref x), (1, .int n)]) hx hb d_ps_shifts_11 rfl hl (by decide) rfl (fun ls hl => ?_)
  refine lv_iconst (v := nI 0) hx hb d_ps_shifts_12 (by decide) ?_
  refine lv_istore (lv' := [(5, .int (nI 0)), (3, .long 0), (2, .int r6), (0, .ref x), (1, .int n)]) hx hb d_ps_shifts_13 hl (by decide) rfl (fun ls hl => ?_)
  refine g_ind (V := Nat × Int64) (fun (k, b) ls => (k ≤ C ∧ b = shC r6 E k) ∧ lv_has ls 9 [(0, .ref x), (1, .int n), (2, .int r6), (3, .long b), (5, .int (nI k))]) (fun (k, b) => C - k) ?_ (0, 0) _ ⟨⟨Nat.zero_le _, rfl⟩, lv_sub hl [3, 4, 2, 1, 0] rfl⟩
  intro v ls hI ih15
  obtain ⟨k, b⟩ := v
  obtain ⟨⟨hk, hb1⟩, hl⟩ := hI
  refine lv_iload hx hb d_ps_shifts_15 (lv_at hl 4 rfl) ?_
  refine lv_aload_n hx hb d_ps_shifts_17 rfl (lv_at hl 0 rfl) ?_
  refine g_get S hE.1 hG hx0 rfl in_ps 0 (by decide) tw_68 (fun _ h9 => h9) rfl d_ps_shifts_18 ?_
  refine g_getN S hE.1 hG hs rfl in_sh 0 (by decide) (hE.2 _ nw_2) (fun _ h9 => h9) rfl d_ps_shifts_21 ?_
  refine g_ge (tgt := 111) hx hb d_ps_shifts_24 (by decide) (by omega) (by omega) (fun c24 => ?_) (fun c24 => ?_)
  · refine lv_lload_n hx hb d_ps_shifts_111 rfl (lv_at hl 3 rfl) ?_
    refine W.widen (k := 1) (n := 6) (Nat.le_of_ble_eq_true rfl) (Nat.le_of_ble_eq_true rfl) ?_
    exact vx_ret (W.lret hx hb hr (fun t9 ht9 hW9 => ⟨_, rfl, ⟨j, (okP_of hj hnj hpj hgj), by rw [hb1, show k = C by omega, h6]⟩, ht9⟩) (fun _ h => nomatch h) d_ps_shifts_112)
  · refine lv_iconst (v := nI 0) hx hb d_ps_shifts_27 (by decide) ?_
    refine lv_istore (lv' := [(6, .int (nI 0)), (0, .ref x), (1, .int n), (2, .int r6), (3, .long b), (5, .int (nI k))]) hx hb d_ps_shifts_28 hl (by decide) rfl (fun ls hl => ?_)
    refine g_ind (V := Nat × Int64) (fun (i, a) ls => (i ≤ E - 1 ∧ a = shI r6 k b i) ∧ lv_has ls 9 [(0, .ref x), (1, .int n), (2, .int r6), (3, .long a), (5, .int (nI k)), (6, .int (nI i))]) (fun (i, a) => E - i) ?_ (0, b) _ ⟨⟨Nat.zero_le _, rfl⟩, lv_sub hl [1, 2, 3, 4, 5, 0] rfl⟩
    intro v ls hI ih30
    obtain ⟨i, a⟩ := v
    obtain ⟨⟨hi, ha⟩, hl⟩ := hI
    refine lv_iload hx hb d_ps_shifts_30 (lv_at hl 5 rfl) ?_
    refine lv_iconst (v := 1) hx hb d_ps_shifts_32 (by decide) ?_
    refine lv_iadd hx hb d_ps_shifts_33 ?_
    refine g_topi (y := nI (i + 1)) (nI_1 i) ?_
    refine lv_aload_n hx hb d_ps_shifts_34 rfl (lv_at hl 0 rfl) ?_
    refine g_get S hE.1 hG hx0 rfl in_ps 0 (by decide) tw_68 (fun _ h9 => h9) rfl d_ps_shifts_35 ?_
    refine g_getN S hE.1 hG hs rfl in_sh 1 (by decide) (hE.2 _ nw_4) (fun _ h9 => h9) rfl d_ps_shifts_38 ?_
    refine g_ge (tgt := 105) hx hb d_ps_shifts_41 (by decide) (by omega) (by omega) (fun c41 => ?_) (fun c41 => ?_)
    · refine lv_iinc (v := nI (k + 1)) (lv' := [(5, .int (nI (k + 1))), (0, .ref x), (1, .int n), (2, .int r6), (3, .long a), (6, .int (nI i))]) hx hb d_ps_shifts_105 hl (k := 4) rfl (show nI k + 1 = _ from nI_1 k) (by decide) rfl (fun ls hl => ?_)
      refine lv_goto (tgt := 15) hx hb d_ps_shifts_108 (by decide) ?_
      exact ih15 ((k + 1), a) _ ⟨⟨by omega, by rw [ha, show i = E - 1 by omega, hb1]; rfl⟩, lv_sub hl [1, 2, 3, 4, 0] rfl⟩ (by first | omega | (simp only []; omega))
    · refine lv_iload_n hx hb d_ps_shifts_44 rfl (lv_at hl 2 rfl) ?_
      refine lv_iload hx hb d_ps_shifts_45 (lv_at hl 4 rfl) ?_
      refine lv_iload hx hb d_ps_shifts_47 (lv_at hl 5 rfl) ?_
      refine g_reti (g_runS (As := [.int (nI k), .int (nI i)]) (rest := [.int r6]) S lk_ps_168 k_ps_place (c_ps_place l Z G (nI k) (nI i)) ⟨rfl, rfl⟩ ⟨Nat.le_of_ble_eq_true rfl, Nat.le_of_ble_eq_true rfl⟩ (gPreS hG hE) rfl hl.1 rfl (Nat.le_of_ble_eq_true rfl) d_ps_shifts_49 ⟨Nat.le_of_ble_eq_true rfl, Nat.le_of_ble_eq_true rfl⟩) (fun r49 h49 => ?_)
      refine lv_iand hx hb d_ps_shifts_52 ?_
      refine lv_if_eq (tgt := 60) hx hb d_ps_shifts_53 (by decide) (fun c53 => ?_) (fun c53 => ?_)
      · refine lv_iconst (v := 0) hx hb d_ps_shifts_60 (by decide) ?_
        refine lv_istore (lv' := [(7, .int 0), (0, .ref x), (1, .int n), (2, .int r6), (3, .long a), (5, .int (nI k)), (6, .int (nI i))]) hx hb d_ps_shifts_61 hl (by decide) rfl (fun ls hl => ?_)
        refine lv_iload_n hx hb d_ps_shifts_63 rfl (lv_at hl 3 rfl) ?_
        refine lv_iload hx hb d_ps_shifts_64 (lv_at hl 5 rfl) ?_
        refine lv_iload hx hb d_ps_shifts_66 (lv_at hl 6 rfl) ?_
        refine lv_iconst (v := 1) hx hb d_ps_shifts_68 (by decide) ?_
        refine lv_iadd hx hb d_ps_shifts_69 ?_
        refine g_topi (y := nI (i + 1)) (nI_1 i) ?_
        refine g_reti (g_runS (As := [.int (nI k), .int (nI (i + 1))]) (rest := [.int r6]) S lk_ps_168 k_ps_place (c_ps_place l Z G (nI k) (nI (i + 1))) ⟨rfl, rfl⟩ ⟨Nat.le_of_ble_eq_true rfl, Nat.le_of_ble_eq_true rfl⟩ (gPreS hG hE) rfl hl.1 rfl (Nat.le_of_ble_eq_true rfl) d_ps_shifts_70 ⟨Nat.le_of_ble_eq_true rfl, Nat.le_of_ble_eq_true rfl⟩) (fun r70 h70 => ?_)
        refine lv_iand hx hb d_ps_shifts_73 ?_
        refine lv_if_eq (tgt := 81) hx hb d_ps_shifts_74 (by decide) (fun c74 => ?_) (fun c74 => ?_)
        · refine lv_iconst (v := 0) hx hb d_ps_shifts_81 (by decide) ?_
          refine lv_istore (lv' := [(8, .int 0), (7, .int 0), (0, .ref x), (1, .int n), (2, .int r6), (3, .long a), (5, .int (nI k)), (6, .int (nI i))]) hx hb d_ps_shifts_82 hl (by decide) rfl (fun ls hl => ?_)
          refine lv_iload hx hb d_ps_shifts_84 (lv_at hl 1 rfl) ?_
          refine lv_iload hx hb d_ps_shifts_86 (lv_at hl 0 rfl) ?_
          refine lv_icmp_eq (tgt := 99) hx hb d_ps_shifts_88 (by decide) (fun c88 => ?_) (fun c88 => absurd c88 (not_not_intro rfl))
          refine lv_iinc (v := nI (i + 1)) (lv' := [(6, .int (nI (i + 1))), (8, .int 0), (7, .int 0), (0, .ref x), (1, .int n), (2, .int r6), (3, .long a), (5, .int (nI k))]) hx hb d_ps_shifts_99 hl (k := 7) rfl (show nI i + 1 = _ from nI_1 i) (by decide) rfl (fun ls hl => ?_)
          refine lv_goto (tgt := 30) hx hb d_ps_shifts_102 (by decide) ?_
          exact ih30 ((i + 1), a) _ ⟨⟨by omega, by rw [h49] at c53; rw [h70] at c74; first | (subst e98; rw [ha]; simp only [shI, itr_s]; simp [c53, c74]; done) | (rw [ha]; simp only [shI, itr_s]; simp [c53, c74])⟩, lv_sub hl [3, 4, 5, 6, 7, 0] rfl⟩ (by first | omega | (simp only []; omega))
        · refine lv_iconst (v := 1) hx hb d_ps_shifts_77 (by decide) ?_
          refine lv_goto (tgt := 82) hx hb d_ps_shifts_78 (by decide) ?_
          refine lv_istore (lv' := [(8, .int 1), (7, .int 0), (0, .ref x), (1, .int n), (2, .int r6), (3, .long a), (5, .int (nI k)), (6, .int (nI i))]) hx hb d_ps_shifts_82 hl (by decide) rfl (fun ls hl => ?_)
          refine lv_iload hx hb d_ps_shifts_84 (lv_at hl 1 rfl) ?_
          refine lv_iload hx hb d_ps_shifts_86 (lv_at hl 0 rfl) ?_
          refine lv_icmp_eq (tgt := 99) hx hb d_ps_shifts_88 (by decide) (fun c88 => absurd c88 (by decide)) (fun c88 => ?_)
          refine lv_lload_n hx hb d_ps_shifts_91 rfl (lv_at hl 5 rfl) ?_
          refine lv_iload hx hb d_ps_shifts_92 (lv_at hl 7 rfl) ?_
          refine lv_iconst (v := 1) hx hb d_ps_shifts_94 (by decide) ?_
          refine lv_iadd hx hb d_ps_shifts_95 ?_
          refine g_topi (y := nI (i + 1)) (nI_1 i) ?_
          refine lv_i2l hx hb d_ps_shifts_96 rfl ?_
          refine lv_ladd hx hb d_ps_shifts_97 ?_
          refine lv_topl (fun x98 e98 => ?_)
          refine lv_lstore_n (lv' := [(3, .long x98), (8, .int 1), (7, .int 0), (0, .ref x), (1, .int n), (2, .int r6), (5, .int (nI k)), (6, .int (nI i))]) hx hb d_ps_shifts_98 rfl hl (by decide) rfl (fun ls hl => ?_)
          refine lv_iinc (v := nI (i + 1)) (lv' := [(6, .int (nI (i + 1))), (3, .long x98), (8, .int 1), (7, .int 0), (0, .ref x), (1, .int n), (2, .int r6), (5, .int (nI k))]) hx hb d_ps_shifts_99 hl (k := 7) rfl (show nI i + 1 = _ from nI_1 i) (by decide) rfl (fun ls hl => ?_)
          refine lv_goto (tgt := 30) hx hb d_ps_shifts_102 (by decide) ?_
          exact ih30 ((i + 1), x98) _ ⟨⟨by omega, by rw [h49] at c53; rw [h70] at c74; first | (subst e98; rw [ha]; simp only [shI, itr_s]; simp [c53, c74]; done) | (rw [ha]; simp only [shI, itr_s]; simp [c53, c74])⟩, lv_sub hl [4, 5, 6, 1, 7, 0] rfl⟩ (by first | omega | (simp only []; omega))
      · refine lv_iconst (v := 1) hx hb d_ps_shifts_56 (by decide) ?_
        refine lv_goto (tgt := 61) hx hb d_ps_shifts_57 (by decide) ?_
        refine lv_istore (lv' := [(7, .int 1), (0, .ref x), (1, .int n), (2, .int r6), (3, .long a), (5, .int (nI k)), (6, .int (nI i))]) hx hb d_ps_shifts_61 hl (by decide) rfl (fun ls hl => ?_)
        refine lv_iload_n hx hb d_ps_shifts_63 rfl (lv_at hl 3 rfl) ?_
        refine lv_iload hx hb d_ps_shifts_64 (lv_at hl 5 rfl) ?_
        refine lv_iload hx hb d_ps_shifts_66 (lv_at hl 6 rfl) ?_
        refine lv_iconst (v := 1) hx hb d_ps_shifts_68 (by decide) ?_
        refine lv_iadd hx hb d_ps_shifts_69 ?_
        refine g_topi (y := nI (i + 1)) (nI_1 i) ?_
        refine g_reti (g_runS (As := [.int (nI k), .int (nI (i + 1))]) (rest := [.int r6]) S lk_ps_168 k_ps_place (c_ps_place l Z G (nI k) (nI (i + 1))) ⟨rfl, rfl⟩ ⟨Nat.le_of_ble_eq_true rfl, Nat.le_of_ble_eq_true rfl⟩ (gPreS hG hE) rfl hl.1 rfl (Nat.le_of_ble_eq_true rfl) d_ps_shifts_70 ⟨Nat.le_of_ble_eq_true rfl, Nat.le_of_ble_eq_true rfl⟩) (fun r70 h70 => ?_)
        refine lv_iand hx hb d_ps_shifts_73 ?_
        refine lv_if_eq (tgt := 81) hx hb d_ps_shifts_74 (by decide) (fun c74 => ?_) (fun c74 => ?_)
        · refine lv_iconst (v := 0) hx hb d_ps_shifts_81 (by decide) ?_
          refine lv_istore (lv' := [(8, .int 0), (7, .int 1), (0, .ref x), (1, .int n), (2, .int r6), (3, .long a), (5, .int (nI k)), (6, .int (nI i))]) hx hb d_ps_shifts_82 hl (by decide) rfl (fun ls hl => ?_)
          refine lv_iload hx hb d_ps_shifts_84 (lv_at hl 1 rfl) ?_
          refine lv_iload hx hb d_ps_shifts_86 (lv_at hl 0 rfl) ?_
          refine lv_icmp_eq (tgt := 99) hx hb d_ps_shifts_88 (by decide) (fun c88 => absurd c88 (by decide)) (fun c88 => ?_)
          refine lv_lload_n hx hb d_ps_shifts_91 rfl (lv_at hl 5 rfl) ?_
          refine lv_iload hx hb d_ps_shifts_92 (lv_at hl 7 rfl) ?_
          refine lv_iconst (v := 1) hx hb d_ps_shifts_94 (by decide) ?_
          refine lv_iadd hx hb d_ps_shifts_95 ?_
          refine g_topi (y := nI (i + 1)) (nI_1 i) ?_
          refine lv_i2l hx hb d_ps_shifts_96 rfl ?_
          refine lv_ladd hx hb d_ps_shifts_97 ?_
          refine lv_topl (fun x98 e98 => ?_)
          refine lv_lstore_n (lv' := [(3, .long x98), (8, .int 0), (7, .int 1), (0, .ref x), (1, .int n), (2, .int r6), (5, .int (nI k)), (6, .int (nI i))]) hx hb d_ps_shifts_98 rfl hl (by decide) rfl (fun ls hl => ?_)
          refine lv_iinc (v := nI (i + 1)) (lv' := [(6, .int (nI (i + 1))), (3, .long x98), (8, .int 0), (7, .int 1), (0, .ref x), (1, .int n), (2, .int r6), (5, .int (nI k))]) hx hb d_ps_shifts_99 hl (k := 7) rfl (show nI i + 1 = _ from nI_1 i) (by decide) rfl (fun ls hl => ?_)
          refine lv_goto (tgt := 30) hx hb d_ps_shifts_102 (by decide) ?_
          exact ih30 ((i + 1), x98) _ ⟨⟨by omega, by rw [h49] at c53; rw [h70] at c74; first | (subst e98; rw [ha]; simp only [shI, itr_s]; simp [c53, c74]; done) | (rw [ha]; simp only [shI, itr_s]; simp [c53, c74])⟩, lv_sub hl [4, 5, 6, 1, 7, 0] rfl⟩ (by first | omega | (simp only []; omega))
        · refine lv_iconst (v := 1) hx hb d_ps_shifts_77 (by decide) ?_
          refine lv_goto (tgt := 82) hx hb d_ps_shifts_78 (by decide) ?_
          refine lv_istore (lv' := [(8, .int 1), (7, .int 1), (0, .ref x), (1, .int n), (2, .int r6), (3, .long a), (5, .int (nI k)), (6, .int (nI i))]) hx hb d_ps_shifts_82 hl (by decide) rfl (fun ls hl => ?_)
          refine lv_iload hx hb d_ps_shifts_84 (lv_at hl 1 rfl) ?_
          refine lv_iload hx hb d_ps_shifts_86 (lv_at hl 0 rfl) ?_
          refine lv_icmp_eq (tgt := 99) hx hb d_ps_shifts_88 (by decide) (fun c88 => ?_) (fun c88 => absurd c88 (not_not_intro rfl))
          refine lv_iinc (v := nI (i + 1)) (lv' := [(6, .int (nI (i + 1))), (8, .int 1), (7, .int 1), (0, .ref x), (1, .int n), (2, .int r6), (3, .long a), (5, .int (nI k))]) hx hb d_ps_shifts_99 hl (k := 7) rfl (show nI i + 1 = _ from nI_1 i) (by decide) rfl (fun ls hl => ?_)
          refine lv_goto (tgt := 30) hx hb d_ps_shifts_102 (by decide) ?_
          exact ih30 ((i + 1), a) _ ⟨⟨by omega, by rw [h49] at c53; rw [h70] at c74; first | (subst e98; rw [ha]; simp only [shI, itr_s]; simp [c53, c74]; done) | (rw [ha]; simp only [shI, itr_s]; simp [c53, c74])⟩, lv_sub hl [3, 4, 5, 6, 7, 0] rfl⟩ (by first | omega | (simp only []; omega))
