set_option maxHeartbeats 4000000 in
set_option maxRecDepth 100000 in
theorem c_ps_signature (l : Launch) (hl9 : l.stackTraces = false) (Z : gZ) (G : gh) (sz : Nat) (x : Nat) {sh ma pa : Nat} {mad fk : Int32} (hx0 : G x = some (.inr (0, [.ref sh, .ref ma, .ref pa, .int mad, .int fk]))) {C E : Nat} (hs : G sh = some (.inr (1, [.int (nI C), .int (nI E)]))) (hC : C ≤ 4) (hE8 : E ≤ 8) {ro : Nat} {stg tp : Int32} (hm : G ma = some (.inr (2, [.ref sh, .ref ro, .int stg, .int tp]))) {pt : Nat → Option Nat} {pd : Nat → Pat} (hpa : G pa = some (.inl (Z.2 3, 24, .inr (.inr (.inr (.inr pt)))))) (hpt : ∀ i a, i < 24 → pt i = some a → G a = some (.inr (3, pfs (pd i)))) (a0 b0 : Int32) : vx_Met l y_ps_signature (wd_ps_signature :: Gall) ({ frames := 6, cells := 1, slots := 6, locals := 91 }) (va_Pc [.ref x, .int a0, .int b0] (gPx Z G sz)) (vp_Sl (fun r : Int64 => ∃ f t, a0 = nI f ∧ b0 = nI t ∧ f ≤ t ∧ t < 2 ^ 31 ∧ r = (sgC stg tp fk C E pt pd f (min t 23 + 1 - f)).toInt64)) (gXC (fun X9 : String => X9 = "java/lang/IllegalArgumentException" ∧ (a0 < 0 ∨ b0 < a0)) sz) 1 6 (fun q => sz ≤ q) := by
  refine vx_ofW (cc := b_ps_signature) (maxL := 7) (ret := (some .long)) (by decide) rfl ?_
  intro p e s m args below meth c s₁ B hml htab hv
  obtain ⟨rfl, hsz, ⟨hG, hE⟩, hX⟩ := hv
  subst hsz
  have hx := B.exec
  have hb := B.bytes
  have hr := B.returns
  have hlocks := B.notSynchronized
  have S : CallFix p m c b_ps_signature 7 s _ Gall "PackSeeds" := ⟨hx, hb, hml, findClass_of_methodNamed B.named, fun w hw => atoms_spec (ws := wd_ps_signature :: Gall) B.pre w (List.mem_cons_of_mem _ hw)⟩
  have hGS : gS (gA G s.heap.size) s.heap Z.1 cls G s.heap [] := gS.start hG
  have hl := lv_entry ([.ref x, .int a0, .int b0]) (n := 7) (Nat.le_of_ble_eq_true rfl)
  rw [lg_entry_eq]
  generalize (lg_sl ([.ref x, .int a0, .int b0]) ++ List.replicate (7 - (lg_sl ([.ref x, .int a0, .int b0])).length) Slot.unset).toArray = ls at hl ⊢
  have hl : lv_has ls 7 [(0, .ref x), (1, .int a0), (2, .int b0)] := hl
  refine lv_iload_n hx hb d_ps_signature_0 rfl (lv_at hl 1 rfl) ?_
  refine lv_if_lt (tgt := 9) hx hb d_ps_signature_1 (by decide) (fun c1 => ?_) (fun c1 => ?_)
  · exact g_throw (text := "from is below 0, or to below from") S hE hl9 hX (by decide) (by decide +kernel) tw_280 tw_12 hat_60 hgd_60 (fun _ h => nomatch h) (fun _ h => nomatch h) hl.1 d_ps_signature_9 d_ps_signature_12 d_ps_signature_13 d_ps_signature_15 d_ps_signature_18 htab (Nat.le_of_ble_eq_true rfl) (Nat.le_of_ble_eq_true rfl) (Nat.le_of_ble_eq_true rfl) (Nat.le_of_ble_eq_true rfl) hlocks ⟨rfl, by first | exact Or.inl c1 | exact Or.inr (Int32.not_le.mp c6)⟩ (Nat.le_of_ble_eq_true rfl) (Nat.le_of_ble_eq_true rfl)
  · refine lv_iload_n hx hb d_ps_signature_4 rfl (lv_at hl 2 rfl) ?_
    refine lv_iload_n hx hb d_ps_signature_5 rfl (lv_at hl 1 rfl) ?_
    refine lv_icmp_ge (tgt := 19) hx hb d_ps_signature_6 (by decide) (fun c6 => ?_) (fun c6 => ?_)
    · obtain ⟨f, hf31, hf⟩ := nn_of c1
      obtain ⟨t, ht31, ht⟩ := nn_of (x := b0) (by intro h9; rw [hf] at c6; rw [Int32.lt_iff_toInt_lt, Int32.toInt_zero] at h9; rw [Int32.le_iff_toInt_le, nI_toInt hf31] at c6; omega)
      subst hf
      subst ht
      have hft : f ≤ t := (nI_leI hf31 ht31).mp c6
      refine lv_iload_n hx hb d_ps_signature_19 rfl (lv_at hl 2 rfl) ?_
      refine lv_aload_n hx hb d_ps_signature_20 rfl (lv_at hl 0 rfl) ?_
      refine g_get S hE.1 hG hx0 rfl in_ps 2 (by decide) tw_70 (fun _ h9 => h9) rfl d_ps_signature_21 ?_
      refine g_alen S hE.1 hG hpa 3 rfl (v := nI 24) rfl d_ps_signature_24 ?_
      refine lv_iconst (v := nI 1) hx hb d_ps_signature_25 (by decide) ?_
      refine lv_isub hx hb d_ps_signature_26 ?_
      refine g_topi (y := nI 23) rfl ?_
      refine va_mmin hx hb (hml.trans hl.1.symm) S.2.2.2.1 (S.2.2.2.2 _ tw_432) (S.2.2.2.2 _ tw_32) (S.2.2.2.2 _ tw_3) (S.2.2.2.2 _ tw_33) (Nat.le_of_ble_eq_true rfl) (Nat.le_of_ble_eq_true rfl) (Nat.le_of_ble_eq_true rfl) (Nat.le_of_ble_eq_true rfl) d_ps_signature_27 ?_
      refine g_topi (y := nI (min t 23)) (mn23 t ht31) ?_
      refine lv_istore_n (lv' := [(3, .int (nI (min t 23))), (0, .ref x), (1, .int (nI f)), (2, .int (nI t))]) hx hb d_ps_signature_30 rfl hl (by decide) rfl (fun ls hl => ?_)
      refine lv_iconst (v := 0) hx hb d_ps_signature_31 (by decide) ?_
      refine lv_istore (lv' := [(4, .int 0), (3, .int (nI (min t 23))), (0, .ref x), (1, .int (nI f)), (2, .int (nI t))]) hx hb d_ps_signature_32 hl (by decide) rfl (fun ls hl => ?_)
      refine lv_iload_n hx hb d_ps_signature_34 rfl (lv_at hl 3 rfl) ?_
      refine lv_istore (lv' := [(5, .int (nI f)), (4, .int 0), (3, .int (nI (min t 23))), (0, .ref x), (1, .int (nI f)), (2, .int (nI t))]) hx hb d_ps_signature_35 hl (by decide) rfl (fun ls hl => ?_)
      refine g_ind (V := Nat × Int32) (fun (k, a) ls => (k ≤ min t 23 + 1 - f ∧ a = sgC stg tp fk C E pt pd f k) ∧ lv_has ls 7 [(0, .ref x), (1, .int (nI f)), (2, .int (nI t)), (3, .int (nI (min t 23))), (4, .int a), (5, .int (nI (f + k)))]) (fun (k, a) => min t 23 + 1 - f - k) ?_ (0, 0) _ ⟨⟨Nat.zero_le _, rfl⟩, lv_sub hl [3, 4, 5, 2, 1, 0] rfl⟩
      intro v ls hI ih37
      obtain ⟨k, a⟩ := v
      obtain ⟨⟨hk, ha⟩, hl⟩ := hI
      refine lv_iload hx hb d_ps_signature_37 (lv_at hl 5 rfl) ?_
      refine lv_iload_n hx hb d_ps_signature_39 rfl (lv_at hl 3 rfl) ?_
      refine g_gt (tgt := 87) hx hb d_ps_signature_40 (by decide) (by omega) (by omega) (fun c40 => ?_) (fun c40 => ?_)
      · refine lv_iload hx hb d_ps_signature_87 (lv_at hl 4 rfl) ?_
        refine lv_i2l hx hb d_ps_signature_89 rfl ?_
        refine W.widen (k := 1) (n := 6) (Nat.le_of_ble_eq_true rfl) (Nat.le_of_ble_eq_true rfl) ?_
        exact vx_ret (W.lret hx hb hr (fun t9 ht9 hW9 => ⟨_, rfl, ⟨f, t, rfl, rfl, hft, ht31, by rw [ha, show k = min t 23 + 1 - f by omega]⟩, ht9⟩) (fun _ h => nomatch h) d_ps_signature_90)
      · refine lv_aload_n hx hb d_ps_signature_43 rfl (lv_at hl 0 rfl) ?_
        refine lv_iload hx hb d_ps_signature_44 (lv_at hl 5 rfl) ?_
        refine g_retq (g_runV (As := [.int (nI (f + k))]) (rest := []) S lk_ps_65 k_ps_presentOrNull (c_ps_presentOrNull l Z G x hx0 hpa hpt (nI (f + k))) ⟨rfl, rfl⟩ ⟨Nat.le_of_ble_eq_true rfl, Nat.le_of_ble_eq_true rfl⟩ (gPreV hG hE hx0 rfl) rfl hl.1 rfl (Nat.le_of_ble_eq_true rfl) d_ps_signature_46 ⟨Nat.le_of_ble_eq_true rfl, Nat.le_of_ble_eq_true rfl⟩) (fun r46 h46 => ?_)
        cases r46 with
        | none =>
          refine lv_astoreN (lv' := [(6, .null), (0, .ref x), (1, .int (nI f)), (2, .int (nI t)), (3, .int (nI (min t 23))), (4, .int a), (5, .int (nI (f + k)))]) hx hb d_ps_signature_49 hl (by decide) rfl (fun ls hl => ?_)
          refine lv_aloadN hx hb d_ps_signature_51 (lv_at hl 0 rfl) ?_
          refine lv_ifnullN (tgt := 81) hx hb d_ps_signature_53 (by decide) ?_
          refine lv_iinc (v := nI ((f + k) + 1)) (lv' := [(5, .int (nI ((f + k) + 1))), (6, .null), (0, .ref x), (1, .int (nI f)), (2, .int (nI t)), (3, .int (nI (min t 23))), (4, .int a)]) hx hb d_ps_signature_81 hl (k := 6) rfl (show nI (f + k) + 1 = _ from nI_1 (f + k)) (by decide) rfl (fun ls hl => ?_)
          refine lv_goto (tgt := 37) hx hb d_ps_signature_84 (by decide) ?_
          exact ih37 ((k + 1), a) _ ⟨⟨by omega, by first | (rw [ha]; simp only [sgC, itr_s]; rw [prI_nat _ _ (by omega)] at h46; simp [← h46]; done) | (rw [h76, h65, ha]; simp only [sgC, itr_s, ← h46, Option.isSome_some, if_true])⟩, lv_sub hl [2, 3, 4, 5, 6, 0] rfl⟩ (by first | omega | (simp only []; omega))
        | some a46 =>
          rw [prI_nat _ _ (by omega)] at h46
          obtain ⟨p46, g46⟩ := prN_some h46
          refine lv_astore (lv' := [(6, .ref a46), (0, .ref x), (1, .int (nI f)), (2, .int (nI t)), (3, .int (nI (min t 23))), (4, .int a), (5, .int (nI (f + k)))]) hx hb d_ps_signature_49 hl (by decide) rfl (fun ls hl => ?_)
          refine lv_aload hx hb d_ps_signature_51 (lv_at hl 0 rfl) ?_
          refine lv_ifnull hx hb d_ps_signature_53 ?_
          refine lv_aload_n hx hb d_ps_signature_56 rfl (lv_at hl 1 rfl) ?_
          refine g_get S hE.1 hG hx0 rfl in_ps 1 (by decide) tw_69 (fun _ h9 => h9) rfl d_ps_signature_57 ?_
          refine lv_iload hx hb d_ps_signature_60 (lv_at hl 5 rfl) ?_
          refine lv_aload_n hx hb d_ps_signature_62 rfl (lv_at hl 1 rfl) ?_
          refine lv_aload hx hb d_ps_signature_63 (lv_at hl 0 rfl) ?_
          refine g_reti (g_runV (As := [.ref a46]) (rest := [.int a, .ref ma]) S lk_ps_114 k_ps_bitsOf (c_ps_bitsOf l Z G x hx0 hs hC hE8 hm a46 (hpt (f + k) a46 (by omega) p46)) ⟨rfl, rfl⟩ ⟨Nat.le_of_ble_eq_true rfl, Nat.le_of_ble_eq_true rfl⟩ (gPreV hG hE hx0 rfl) rfl hl.1 rfl (Nat.le_of_ble_eq_true rfl) d_ps_signature_65 ⟨Nat.le_of_ble_eq_true rfl, Nat.le_of_ble_eq_true rfl⟩) (fun r65 h65 => ?_)
          refine lv_aload hx hb d_ps_signature_68 (lv_at hl 0 rfl) ?_
          refine g_getN S hE.1 hG (hpt (f + k) a46 (by omega) p46) rfl in_pt 2 (by decide) (hE.2 _ nw_20) (fun _ h9 => h9) rfl d_ps_signature_70 ?_
          refine lv_iconst (v := (-1)) hx hb d_ps_signature_73 (by decide) ?_
          refine lv_ixor hx hb d_ps_signature_74 ?_
          refine lv_iand hx hb d_ps_signature_75 ?_
          refine g_reti (g_runVN (As := [.int a, .int (r65 &&& ((pmk (pd (f + k))) ^^^ (-1)))]) (rest := []) S hE lk_ps_142 k_ma_takeIn (c_ma_takeIn l Z G ma hm hs hC hE8 a (r65 &&& ((pmk (pd (f + k))) ^^^ (-1)))) ⟨rfl, rfl⟩ ⟨Nat.le_of_ble_eq_true rfl, Nat.le_of_ble_eq_true rfl⟩ (gPreV hG hE hm rfl) rfl hl.1 rfl (Nat.le_of_ble_eq_true rfl) d_ps_signature_76 ⟨Nat.le_of_ble_eq_true rfl, Nat.le_of_ble_eq_true rfl⟩) (fun r76 h76 => ?_)
          refine lv_istore (lv' := [(4, .int r76), (6, .ref a46), (0, .ref x), (1, .int (nI f)), (2, .int (nI t)), (3, .int (nI (min t 23))), (5, .int (nI (f + k)))]) hx hb d_ps_signature_79 hl (by decide) rfl (fun ls hl => ?_)
          refine lv_iinc (v := nI ((f + k) + 1)) (lv' := [(5, .int (nI ((f + k) + 1))), (4, .int r76), (6, .ref a46), (0, .ref x), (1, .int (nI f)), (2, .int (nI t)), (3, .int (nI (min t 23)))]) hx hb d_ps_signature_81 hl (k := 6) rfl (show nI (f + k) + 1 = _ from nI_1 (f + k)) (by decide) rfl (fun ls hl => ?_)
          refine lv_goto (tgt := 37) hx hb d_ps_signature_84 (by decide) ?_
          exact ih37 ((k + 1), r76) _ ⟨⟨by omega, by first | (rw [ha]; simp only [sgC, itr_s]; rw [prI_nat _ _ (by omega)] at h46; simp [← h46]; done) | (rw [h76, h65, ha]; simp only [sgC, itr_s, ← h46, Option.isSome_some, if_true])⟩, lv_sub hl [3, 4, 5, 6, 1, 0] rfl⟩ (by first | omega | (simp only []; omega))
    · exact g_throw (text := "from is below 0, or to below from") S hE hl9 hX (by decide) (by decide +kernel) tw_280 tw_12 hat_60 hgd_60 (fun _ h => nomatch h) (fun _ h => nomatch h) hl.1 d_ps_signature_9 d_ps_signature_12 d_ps_signature_13 d_ps_signature_15 d_ps_signature_18 htab (Nat.le_of_ble_eq_true rfl) (Nat.le_of_ble_eq_true rfl) (Nat.le_of_ble_eq_true rfl) (Nat.le_of_ble_eq_true rfl) hlocks ⟨rfl, by first | exact Or.inl c1 | exact Or.inr (Int32.not_le.mp c6)⟩ (Nat.le_of_ble_eq_true rfl) (Nat.le_of_ble_eq_true rfl)

set_option maxHeartbeats 4000000 in
set_option maxRecDepth 100000 in
theorem c_ps_alias (l : Launch) (hl9 : l.stackTraces = false) (Z : gZ) (G : gh) (sz : Nat) (x : Nat) {sh ma pa : Nat} {mad fk : Int32} (hx0 : G x = some (.inr (0, [.ref sh, .ref ma, .ref pa, .int mad, .int fk]))) {ro D : Nat} {tp : Int32} (hm : G ma = some (.inr (2, [.ref sh, .ref ro, .int (nI D), .int tp]))) (hD0 : 1 ≤ D) (hD : D ≤ 16) (n0 q0 : Int32) : vx_Met l y_ps_alias (wd_ps_alias :: Gall) ({ frames := 6, cells := 1, slots := 6, locals := 90 }) (va_Pc [.ref x, .int n0, .int q0] (gPx Z G sz)) (vp_Sl (fun r : Int64 => ∃ N, 1 ≤ N ∧ N ≤ 60 ∧ n0 = nI N ∧ (q0 = 0 ∨ q0 = 1) ∧ r = (if q0 = 0 then lN (2 ^ (N - D) - 1) else lN (2 ^ N - 1)) / gcdC (lN (2 ^ N - 1)) (lN (2 ^ (N - D) - 1)))) (gXC (fun X9 : String => X9 = "java/lang/IllegalArgumentException" ∧ ¬ ((∃ N, 1 ≤ N ∧ N ≤ 60 ∧ n0 = nI N) ∧ (q0 = 0 ∨ q0 = 1))) sz) 1 6 (fun q => sz ≤ q) := by
  refine vx_ofW (cc := b_ps_alias) (maxL := 8) (ret := (some .long)) (by decide) rfl ?_
  intro p e s m args below meth c s₁ B hml htab hv
  obtain ⟨rfl, hsz, ⟨hG, hE⟩, hX⟩ := hv
  subst hsz
  have hx := B.exec
  have hb := B.bytes
  have hr := B.returns
  have hlocks := B.notSynchronized
  have S : CallFix p m c b_ps_alias 8 s _ Gall "PackSeeds" := ⟨hx, hb, hml, findClass_of_methodNamed B.named, fun w hw => atoms_spec (ws := wd_ps_alias :: Gall) B.pre w (List.mem_cons_of_mem _ hw)⟩
  have hGS : gS (gA G s.heap.size) s.heap Z.1 cls G s.heap [] := gS.start hG
  have hl := lv_entry ([.ref x, .int n0, .int q0]) (n := 8) (Nat.le_of_ble_eq_true rfl)
  rw [lg_entry_eq]
  generalize (lg_sl ([.ref x, .int n0, .int q0]) ++ List.replicate (8 - (lg_sl ([.ref x, .int n0, .int q0])).length) Slot.unset).toArray = ls at hl ⊢
  have hl : lv_has ls 8 [(0, .ref x), (1, .int n0), (2, .int q0)] := hl
  refine lv_iload_n hx hb d_ps_alias_0 rfl (lv_at hl 1 rfl) ?_
  refine lv_iconst (v := 1) hx hb d_ps_alias_1 (by decide) ?_
  refine lv_icmp_lt (tgt := 11) hx hb d_ps_alias_2 (by decide) (fun c2 => ?_) (fun c2 => ?_)
  · exact g_throw (text := "a stream has 1 .. 60 bits") S hE hl9 hX (by decide) (by decide +kernel) tw_280 tw_12 hat_60 hgd_60 (fun _ h => nomatch h) (fun _ h => nomatch h) hl.1 d_ps_alias_11 d_ps_alias_14 d_ps_alias_15 d_ps_alias_17 d_ps_alias_20 htab (Nat.le_of_ble_eq_true rfl) (Nat.le_of_ble_eq_true rfl) (Nat.le_of_ble_eq_true rfl) (Nat.le_of_ble_eq_true rfl) hlocks ⟨rfl, by rintro ⟨⟨N, h1, h2, rfl⟩, -⟩; first | exact (rng60' h1 h2).1 c2 | exact c8 (rng60' h1 h2).2⟩ (Nat.le_of_ble_eq_true rfl) (Nat.le_of_ble_eq_true rfl)
  · refine lv_iload_n hx hb d_ps_alias_5 rfl (lv_at hl 1 rfl) ?_
    refine lv_bipush (v := 60) hx hb d_ps_alias_6 (by decide) ?_
    refine lv_icmp_le (tgt := 21) hx hb d_ps_alias_8 (by decide) (fun c8 => ?_) (fun c8 => ?_)
    · obtain ⟨N, hN1, hN2, hN⟩ := rng60 c2 c8
      subst hN
      refine lv_iload_n hx hb d_ps_alias_21 rfl (lv_at hl 2 rfl) ?_
      refine lv_if_eq (tgt := 40) hx hb d_ps_alias_22 (by decide) (fun c22 => ?_) (fun c22 => ?_)
      · refine lv_iconst (v := 0) hx hb d_ps_alias_40 (by decide) ?_
        refine lv_iload_n hx hb d_ps_alias_41 rfl (lv_at hl 1 rfl) ?_
        refine lv_aload_n hx hb d_ps_alias_42 rfl (lv_at hl 0 rfl) ?_
        refine g_get S hE.1 hG hx0 rfl in_ps 1 (by decide) tw_69 (fun _ h9 => h9) rfl d_ps_alias_43 ?_
        refine g_getN S hE.1 hG hm rfl in_ma 2 (by decide) (hE.2 _ nw_6) (fun _ h9 => h9) rfl d_ps_alias_46 ?_
        refine lv_isub hx hb d_ps_alias_49 ?_
        refine va_mmax hx hb (hml.trans hl.1.symm) S.2.2.2.1 (S.2.2.2.2 _ tw_446) (S.2.2.2.2 _ tw_29) (S.2.2.2.2 _ tw_3) (S.2.2.2.2 _ tw_30) (Nat.le_of_ble_eq_true rfl) (Nat.le_of_ble_eq_true rfl) (Nat.le_of_ble_eq_true rfl) (Nat.le_of_ble_eq_true rfl) d_ps_alias_50 ?_
        refine g_topi (y := nI (N - D)) (frmax N (by omega) D (by omega)) ?_
        refine lv_istore_n (lv' := [(3, .int (nI (N - D))), (0, .ref x), (1, .int (nI N)), (2, .int q0)]) hx hb d_ps_alias_53 rfl hl (by decide) rfl (fun ls hl => ?_)
        refine lv_lconst (v := 1) hx hb d_ps_alias_54 (by decide) ?_
        refine lv_iload_n hx hb d_ps_alias_55 rfl (lv_at hl 0 rfl) ?_
        refine lv_lshl hx hb d_ps_alias_56 rfl ?_
        refine lv_lconst (v := 1) hx hb d_ps_alias_57 (by decide) ?_
        refine lv_lsub hx hb d_ps_alias_58 ?_
        refine g_topl (y := lN (2 ^ (N - D) - 1)) (lshl1 (N - D) (by omega)) ?_
        refine lv_topl (fun x59 e59 => ?_)
        refine lv_lstore (lv' := [(4, .long x59), (3, .int (nI (N - D))), (0, .ref x), (1, .int (nI N)), (2, .int q0)]) hx hb d_ps_alias_59 hl (by decide) rfl (fun ls hl => ?_)
        refine lv_lconst (v := 1) hx hb d_ps_alias_61 (by decide) ?_
        refine lv_iload_n hx hb d_ps_alias_62 rfl (lv_at hl 3 rfl) ?_
        refine lv_lshl hx hb d_ps_alias_63 rfl ?_
        refine lv_lconst (v := 1) hx hb d_ps_alias_64 (by decide) ?_
        refine lv_lsub hx hb d_ps_alias_65 ?_
        refine g_topl (y := lN (2 ^ N - 1)) (lshl1 N (by omega)) ?_
        refine lv_topl (fun x66 e66 => ?_)
        refine lv_lstore (lv' := [(6, .long x66), (4, .long x59), (3, .int (nI (N - D))), (0, .ref x), (1, .int (nI N)), (2, .int q0)]) hx hb d_ps_alias_66 hl (by decide) rfl (fun ls hl => ?_)
        refine lv_iload_n hx hb d_ps_alias_68 rfl (lv_at hl 5 rfl) ?_
        refine lv_if_ne (tgt := 77) hx hb d_ps_alias_69 (by decide) (fun c69 => ?_) (fun c69 => ?_)
        · refine lv_lload hx hb d_ps_alias_77 (lv_at hl 0 rfl) ?_
          refine lv_lload hx hb d_ps_alias_79 (lv_at hl 0 rfl) ?_
          refine lv_lload hx hb d_ps_alias_81 (lv_at hl 1 rfl) ?_
          refine g_retl (g_runS (As := [.long x66, .long x59]) (rest := [.long x66]) S lk_ps_156 k_ps_greatestDivisor (c_ps_greatestDivisor l Z G x66 x59) ⟨rfl, rfl⟩ ⟨Nat.le_of_ble_eq_true rfl, Nat.le_of_ble_eq_true rfl⟩ (gPreS hG hE) rfl hl.1 rfl (Nat.le_of_ble_eq_true rfl) d_ps_alias_83 ⟨Nat.le_of_ble_eq_true rfl, Nat.le_of_ble_eq_true rfl⟩) (fun r83 h83 => ?_)
          refine lv_ldiv hx hb d_ps_alias_86 (by rw [h83]; exact gcdC_ne _ _) ?_
          refine W.widen (k := 1) (n := 6) (Nat.le_of_ble_eq_true rfl) (Nat.le_of_ble_eq_true rfl) ?_
          exact vx_ret (W.lret hx hb hr (fun t9 ht9 hW9 => ⟨_, rfl, ⟨N, hN1, hN2, rfl, by first | exact Or.inl c22 | exact Or.inr c27, by rw [h83, e66, e59]; simp [c69]⟩, ht9⟩) (fun _ h => nomatch h) d_ps_alias_87)
        · refine lv_lload hx hb d_ps_alias_72 (lv_at hl 1 rfl) ?_
          refine lv_goto (tgt := 79) hx hb d_ps_alias_74 (by decide) ?_
          refine lv_lload hx hb d_ps_alias_79 (lv_at hl 0 rfl) ?_
          refine lv_lload hx hb d_ps_alias_81 (lv_at hl 1 rfl) ?_
          refine g_retl (g_runS (As := [.long x66, .long x59]) (rest := [.long x59]) S lk_ps_156 k_ps_greatestDivisor (c_ps_greatestDivisor l Z G x66 x59) ⟨rfl, rfl⟩ ⟨Nat.le_of_ble_eq_true rfl, Nat.le_of_ble_eq_true rfl⟩ (gPreS hG hE) rfl hl.1 rfl (Nat.le_of_ble_eq_true rfl) d_ps_alias_83 ⟨Nat.le_of_ble_eq_true rfl, Nat.le_of_ble_eq_true rfl⟩) (fun r83 h83 => ?_)
          refine lv_ldiv hx hb d_ps_alias_86 (by rw [h83]; exact gcdC_ne _ _) ?_
          refine W.widen (k := 1) (n := 6) (Nat.le_of_ble_eq_true rfl) (Nat.le_of_ble_eq_true rfl) ?_
          exact vx_ret (W.lret hx hb hr (fun t9 ht9 hW9 => ⟨_, rfl, ⟨N, hN1, hN2, rfl, by first | exact Or.inl c22 | exact Or.inr c27, by rw [h83, e66, e59]; simp [c69]⟩, ht9⟩) (fun _ h => nomatch h) d_ps_alias_87)
      · refine lv_iload_n hx hb d_ps_alias_25 rfl (lv_at hl 2 rfl) ?_
        refine lv_iconst (v := 1) hx hb d_ps_alias_26 (by decide) ?_
        refine lv_icmp_eq (tgt := 40) hx hb d_ps_alias_27 (by decide) (fun c27 => ?_) (fun c27 => ?_)
        · refine lv_iconst (v := 0) hx hb d_ps_alias_40 (by decide) ?_
          refine lv_iload_n hx hb d_ps_alias_41 rfl (lv_at hl 1 rfl) ?_
          refine lv_aload_n hx hb d_ps_alias_42 rfl (lv_at hl 0 rfl) ?_
          refine g_get S hE.1 hG hx0 rfl in_ps 1 (by decide) tw_69 (fun _ h9 => h9) rfl d_ps_alias_43 ?_
          refine g_getN S hE.1 hG hm rfl in_ma 2 (by decide) (hE.2 _ nw_6) (fun _ h9 => h9) rfl d_ps_alias_46 ?_
          refine lv_isub hx hb d_ps_alias_49 ?_
          refine va_mmax hx hb (hml.trans hl.1.symm) S.2.2.2.1 (S.2.2.2.2 _ tw_446) (S.2.2.2.2 _ tw_29) (S.2.2.2.2 _ tw_3) (S.2.2.2.2 _ tw_30) (Nat.le_of_ble_eq_true rfl) (Nat.le_of_ble_eq_true rfl) (Nat.le_of_ble_eq_true rfl) (Nat.le_of_ble_eq_true rfl) d_ps_alias_50 ?_
          refine g_topi (y := nI (N - D)) (frmax N (by omega) D (by omega)) ?_
          refine lv_istore_n (lv' := [(3, .int (nI (N - D))), (0, .ref x), (1, .int (nI N)), (2, .int q0)]) hx hb d_ps_alias_53 rfl hl (by decide) rfl (fun ls hl => ?_)
          refine lv_lconst (v := 1) hx hb d_ps_alias_54 (by decide) ?_
          refine lv_iload_n hx hb d_ps_alias_55 rfl (lv_at hl 0 rfl) ?_
          refine lv_lshl hx hb d_ps_alias_56 rfl ?_
          refine lv_lconst (v := 1) hx hb d_ps_alias_57 (by decide) ?_
          refine lv_lsub hx hb d_ps_alias_58 ?_
          refine g_topl (y := lN (2 ^ (N - D) - 1)) (lshl1 (N - D) (by omega)) ?_
          refine lv_topl (fun x59 e59 => ?_)
          refine lv_lstore (lv' := [(4, .long x59), (3, .int (nI (N - D))), (0, .ref x), (1, .int (nI N)), (2, .int q0)]) hx hb d_ps_alias_59 hl (by decide) rfl (fun ls hl => ?_)
          refine lv_lconst (v := 1) hx hb d_ps_alias_61 (by decide) ?_
          refine lv_iload_n hx hb d_ps_alias_62 rfl (lv_at hl 3 rfl) ?_
          refine lv_lshl hx hb d_ps_alias_63 rfl ?_
          refine lv_lconst (v := 1) hx hb d_ps_alias_64 (by decide) ?_
          refine lv_lsub hx hb d_ps_alias_65 ?_
          refine g_topl (y := lN (2 ^ N - 1)) (lshl1 N (by omega)) ?_
          refine lv_topl (fun x66 e66 => ?_)
          refine lv_lstore (lv' := [(6, .long x66), (4, .long x59), (3, .int (nI (N - D))), (0, .ref x), (1, .int (nI N)), (2, .int q0)]) hx hb d_ps_alias_66 hl (by decide) rfl (fun ls hl => ?_)
          refine lv_iload_n hx hb d_ps_alias_68 rfl (lv_at hl 5 rfl) ?_
          refine lv_if_ne (tgt := 77) hx hb d_ps_alias_69 (by decide) (fun c69 => ?_) (fun c69 => ?_)
          · refine lv_lload hx hb d_ps_alias_77 (lv_at hl 0 rfl) ?_
            refine lv_lload hx hb d_ps_alias_79 (lv_at hl 0 rfl) ?_
            refine lv_lload hx hb d_ps_alias_81 (lv_at hl 1 rfl) ?_
            refine g_retl (g_runS (As := [.long x66, .long x59]) (rest := [.long x66]) S lk_ps_156 k_ps_greatestDivisor (c_ps_greatestDivisor l Z G x66 x59) ⟨rfl, rfl⟩ ⟨Nat.le_of_ble_eq_true rfl, Nat.le_of_ble_eq_true rfl⟩ (gPreS hG hE) rfl hl.1 rfl (Nat.le_of_ble_eq_true rfl) d_ps_alias_83 ⟨Nat.le_of_ble_eq_true rfl, Nat.le_of_ble_eq_true rfl⟩) (fun r83 h83 => ?_)
            refine lv_ldiv hx hb d_ps_alias_86 (by rw [h83]; exact gcdC_ne _ _) ?_
            refine W.widen (k := 1) (n := 6) (Nat.le_of_ble_eq_true rfl) (Nat.le_of_ble_eq_true rfl) ?_
            exact vx_ret (W.lret hx hb hr (fun t9 ht9 hW9 => ⟨_, rfl, ⟨N, hN1, hN2, rfl, by first | exact Or.inl c22 | exact Or.inr c27, by rw [h83, e66, e59]; simp [c69]⟩, ht9⟩) (fun _ h => nomatch h) d_ps_alias_87)
          · refine lv_lload hx hb d_ps_alias_72 (lv_at hl 1 rfl) ?_
            refine lv_goto (tgt := 79) hx hb d_ps_alias_74 (by decide) ?_
            refine lv_lload hx hb d_ps_alias_79 (lv_at hl 0 rfl) ?_
            refine lv_lload hx hb d_ps_alias_81 (lv_at hl 1 rfl) ?_
            refine g_retl (g_runS (As := [.long x66, .long x59]) (rest := [.long x59]) S lk_ps_156 k_ps_greatestDivisor (c_ps_greatestDivisor l Z G x66 x59) ⟨rfl, rfl⟩ ⟨Nat.le_of_ble_eq_true rfl, Nat.le_of_ble_eq_true rfl⟩ (gPreS hG hE) rfl hl.1 rfl (Nat.le_of_ble_eq_true rfl) d_ps_alias_83 ⟨Nat.le_of_ble_eq_true rfl, Nat.le_of_ble_eq_true rfl⟩) (fun r83 h83 => ?_)
            refine lv_ldiv hx hb d_ps_alias_86 (by rw [h83]; exact gcdC_ne _ _) ?_
            refine W.widen (k := 1) (n := 6) (Nat.le_of_ble_eq_true rfl) (Nat.le_of_ble_eq_true rfl) ?_
            exact vx_ret (W.lret hx hb hr (fun t9 ht9 hW9 => ⟨_, rfl, ⟨N, hN1, hN2, rfl, by first | exact Or.inl c22 | exact Or.inr c27, by rw [h83, e66, e59]; simp [c69]⟩, ht9⟩) (fun _ h => nomatch h) d_ps_alias_87)
        · exact g_throw (text := "a part is 0 or 1") S hE hl9 hX (by decide) (by decide +kernel) tw_280 tw_12 hat_60 hgd_60 (fun _ h => nomatch h) (fun _ h => nomatch h) hl.1 d_ps_alias_30 d_ps_alias_33 d_ps_alias_34 d_ps_alias_36 d_ps_alias_39 htab (Nat.le_of_ble_eq_true rfl) (Nat.le_of_ble_eq_true rfl) (Nat.le_of_ble_eq_true rfl) (Nat.le_of_ble_eq_true rfl) hlocks ⟨rfl, by rintro ⟨-, h⟩; rcases h with h | h; exact c22 h; exact c27 h⟩ (Nat.le_of_ble_eq_true rfl) (Nat.le_of_ble_eq_true rfl)
    · exact g_throw (text := "a stream has 1 .. 60 bits") S hE hl9 hX (by decide) (by decide +kernel) tw_280 tw_12 hat_60 hgd_60 (fun _ h => nomatch h) (fun _ h => nomatch h) hl.1 d_ps_alias_11 d_ps_alias_14 d_ps_alias_15 d_ps_alias_17 d_ps_alias_20 htab (Nat.le_of_ble_eq_true rfl) (Nat.le_of_ble_eq_true rfl) (Nat.le_of_ble_eq_true rfl) (Nat.le_of_ble_eq_true rfl) hlocks ⟨rfl, by rintro ⟨⟨N, h1, h2, rfl⟩, -⟩; first | exact (rng60' h1 h2).1 c2 | exact c8 (rng60' h1 h2).2⟩ (Nat.le_of_ble_eq_true rfl) (Nat.le_of_ble_eq_true rfl)

set_option maxHeartbeats 4000000 in
set_option maxRecDepth 100000 in
theorem c_ps_count (l : Launch) (hl9 : l.stackTraces = false) (Z : gZ) (G : gh) (sz : Nat) (x : Nat) {sh ma pa : Nat} {mad fk : Int32} (hx0 : G x = some (.inr (0, [.ref sh, .ref ma, .ref pa, .int mad, .int fk]))) {C E : Nat} (hs : G sh = some (.inr (1, [.int (nI C), .int (nI E)]))) (hC : C ≤ 4) (hE8 : E ≤ 8) {ro : Nat} {stg tp : Int32} (hm : G ma = some (.inr (2, [.ref sh, .ref ro, .int stg, .int tp]))) {pt : Nat → Option Nat} {pd : Nat → Pat} (hpa : G pa = some (.inl (Z.2 3, 24, .inr (.inr (.inr (.inr pt)))))) (hpt : ∀ i a, i < 24 → pt i = some a → G a = some (.inr (3, pfs (pd i)))) (w0 : Int32) : vx_Met l y_ps_count (wd_ps_count :: Gall) ({ frames := 6, cells := 1, slots := 6, locals := 90 }) (va_Pc [.ref x, .int w0] (gPx Z G sz)) (vp_Si (fun r : Int32 => ∃ j, j < 5 ∧ w0 = nI j ∧ r = cnC stg pt pd j)) (gXC (fun X9 : String => X9 = "java/lang/IndexOutOfBoundsException" ∧ ¬ ∃ j, j < 5 ∧ w0 = nI j) sz) 1 6 (fun q => sz ≤ q) := by
  refine vx_ofW (cc := b_ps_count) (maxL := 2) (ret := (some .int)) (by decide) rfl ?_
  intro p e s m args below meth c s₁ B hml htab hv
  obtain ⟨rfl, hsz, ⟨hG, hE⟩, hX⟩ := hv
  subst hsz
  have hx := B.exec
  have hb := B.bytes
  have hr := B.returns
  have hlocks := B.notSynchronized
  have S : CallFix p m c b_ps_count 2 s _ Gall "PackSeeds" := ⟨hx, hb, hml, findClass_of_methodNamed B.named, fun w hw => atoms_spec (ws := wd_ps_count :: Gall) B.pre w (List.mem_cons_of_mem _ hw)⟩
  have hGS : gS (gA G s.heap.size) s.heap Z.1 cls G s.heap [] := gS.start hG
  have hl := lv_entry ([.ref x, .int w0]) (n := 2) (Nat.le_of_ble_eq_true rfl)
  rw [lg_entry_eq]
  generalize (lg_sl ([.ref x, .int w0]) ++ List.replicate (2 - (lg_sl ([.ref x, .int w0])).length) Slot.unset).toArray = ls at hl ⊢
  have hl : lv_has ls 2 [(0, .ref x), (1, .int w0)] := hl
  refine lv_iload_n hx hb d_ps_count_0 rfl (lv_at hl 1 rfl) ?_
  rcases pk_ix w0 (n := 5) (by omega) with w1 | w1 | ⟨j1, hj1, w1⟩
  · refine lv_tableOut (tgt := 68) hx hb d_ps_count_1 (Or.inl (by rw [Int32.lt_iff_toInt_lt] at w1; exact w1)) (by decide) ?_
    exact g_throw (text := "there is no such what") S hE hl9 hX (by decide) (by decide +kernel) tw_256 tw_11 hat_92 hgd_92 (fun _ h => nomatch h) (fun _ h => nomatch h) hl.1 d_ps_count_68 d_ps_count_71 d_ps_count_72 d_ps_count_74 d_ps_count_77 htab (Nat.le_of_ble_eq_true rfl) (Nat.le_of_ble_eq_true rfl) (Nat.le_of_ble_eq_true rfl) (Nat.le_of_ble_eq_true rfl) hlocks ⟨rfl, by rintro ⟨j, hj, rfl⟩; first | exact absurd w1 (nI_pos (by omega)) | exact absurd w1 (nI_ge hj (by omega))⟩ (Nat.le_of_ble_eq_true rfl) (Nat.le_of_ble_eq_true rfl)
  · refine lv_tableOut (tgt := 68) hx hb d_ps_count_1 (Or.inr (by rw [Int32.le_iff_toInt_le, nI_toInt (by omega)] at w1; omega)) (by decide) ?_
    exact g_throw (text := "there is no such what") S hE hl9 hX (by decide) (by decide +kernel) tw_256 tw_11 hat_92 hgd_92 (fun _ h => nomatch h) (fun _ h => nomatch h) hl.1 d_ps_count_68 d_ps_count_71 d_ps_count_72 d_ps_count_74 d_ps_count_77 htab (Nat.le_of_ble_eq_true rfl) (Nat.le_of_ble_eq_true rfl) (Nat.le_of_ble_eq_true rfl) (Nat.le_of_ble_eq_true rfl) hlocks ⟨rfl, by rintro ⟨j, hj, rfl⟩; first | exact absurd w1 (nI_pos (by omega)) | exact absurd w1 (nI_ge hj (by omega))⟩ (Nat.le_of_ble_eq_true rfl) (Nat.le_of_ble_eq_true rfl)
  · rcases (show j1 = 0 ∨ j1 = 1 ∨ j1 = 2 ∨ j1 = 3 ∨ j1 = 4 by omega) with rfl | rfl | rfl | rfl | rfl
    · refine g_topi w1 ?_
      refine lv_tableIn (off := 35) (tgt := 36) hx hb d_ps_count_1 (by decide) (by decide) (by decide) (by decide) ?_
      refine lv_aload_n hx hb d_ps_count_36 rfl (lv_at hl 0 rfl) ?_
      refine g_reti (g_runV (As := []) (rest := []) S lk_ps_72 k_ps_countPresent (c_ps_countPresent l Z G x hx0 hpa hpt) ⟨rfl, rfl⟩ ⟨Nat.le_of_ble_eq_true rfl, Nat.le_of_ble_eq_true rfl⟩ (gPreV hG hE hx0 rfl) rfl hl.1 rfl (Nat.le_of_ble_eq_true rfl) d_ps_count_37 ⟨Nat.le_of_ble_eq_true rfl, Nat.le_of_ble_eq_true rfl⟩) (fun r37 h37 => ?_)
      refine W.widen (k := 1) (n := 6) (Nat.le_of_ble_eq_true rfl) (Nat.le_of_ble_eq_true rfl) ?_
      exact vx_ret (W.iret hx hb hr (fun t9 ht9 hW9 => ⟨_, rfl, ⟨0, by omega, w1, h37⟩, ht9⟩) (fun _ h => nomatch h) d_ps_count_40)
    · refine g_topi w1 ?_
      refine lv_tableIn (off := 40) (tgt := 41) hx hb d_ps_count_1 (by decide) (by decide) (by decide) (by decide) ?_
      refine lv_aload_n hx hb d_ps_count_41 rfl (lv_at hl 0 rfl) ?_
      refine g_reti (g_runV (As := []) (rest := []) S lk_ps_171 k_ps_countSeeded (c_ps_countSeeded l Z G x hx0 hpa hpt) ⟨rfl, rfl⟩ ⟨Nat.le_of_ble_eq_true rfl, Nat.le_of_ble_eq_true rfl⟩ (gPreV hG hE hx0 rfl) rfl hl.1 rfl (Nat.le_of_ble_eq_true rfl) d_ps_count_42 ⟨Nat.le_of_ble_eq_true rfl, Nat.le_of_ble_eq_true rfl⟩) (fun r42 h42 => ?_)
      refine W.widen (k := 1) (n := 6) (Nat.le_of_ble_eq_true rfl) (Nat.le_of_ble_eq_true rfl) ?_
      exact vx_ret (W.iret hx hb hr (fun t9 ht9 hW9 => ⟨_, rfl, ⟨1, by omega, w1, h42⟩, ht9⟩) (fun _ h => nomatch h) d_ps_count_45)
    · refine g_topi w1 ?_
      refine lv_tableIn (off := 45) (tgt := 46) hx hb d_ps_count_1 (by decide) (by decide) (by decide) (by decide) ?_
      refine lv_aload_n hx hb d_ps_count_46 rfl (lv_at hl 0 rfl) ?_
      refine g_reti (g_runV (As := []) (rest := []) S lk_ps_174 k_ps_countCared (c_ps_countCared l Z G x hx0 hpa hpt) ⟨rfl, rfl⟩ ⟨Nat.le_of_ble_eq_true rfl, Nat.le_of_ble_eq_true rfl⟩ (gPreV hG hE hx0 rfl) rfl hl.1 rfl (Nat.le_of_ble_eq_true rfl) d_ps_count_47 ⟨Nat.le_of_ble_eq_true rfl, Nat.le_of_ble_eq_true rfl⟩) (fun r47 h47 => ?_)
      refine W.widen (k := 1) (n := 6) (Nat.le_of_ble_eq_true rfl) (Nat.le_of_ble_eq_true rfl) ?_
      exact vx_ret (W.iret hx hb hr (fun t9 ht9 hW9 => ⟨_, rfl, ⟨2, by omega, w1, h47⟩, ht9⟩) (fun _ h => nomatch h) d_ps_count_50)
    · refine g_topi w1 ?_
      refine lv_tableIn (off := 50) (tgt := 51) hx hb d_ps_count_1 (by decide) (by decide) (by decide) (by decide) ?_
      refine lv_aload_n hx hb d_ps_count_51 rfl (lv_at hl 0 rfl) ?_
      refine g_get S hE.1 hG hx0 rfl in_ps 1 (by decide) tw_69 (fun _ h9 => h9) rfl d_ps_count_52 ?_
      refine g_getN S hE.1 hG hm rfl in_ma 2 (by decide) (hE.2 _ nw_6) (fun _ h9 => h9) rfl d_ps_count_55 ?_
      refine W.widen (k := 1) (n := 6) (Nat.le_of_ble_eq_true rfl) (Nat.le_of_ble_eq_true rfl) ?_
      exact vx_ret (W.iret hx hb hr (fun t9 ht9 hW9 => ⟨_, rfl, ⟨3, by omega, w1, rfl⟩, ht9⟩) (fun _ h => nomatch h) d_ps_count_58)
    · refine g_topi w1 ?_
      refine lv_tableIn (off := 58) (tgt := 59) hx hb d_ps_count_1 (by decide) (by decide) (by decide) (by decide) ?_
      refine lv_aload_n hx hb d_ps_count_59 rfl (lv_at hl 0 rfl) ?_
      refine lv_iconst (v := (-1)) hx hb d_ps_count_60 (by decide) ?_
      refine g_reti (g_runV (As := [.int (-1)]) (rest := []) S lk_ps_125 k_ps_faultsOfAllBut (c_ps_faultsOfAllBut l Z G x hx0 hpa hpt (-1)) ⟨rfl, rfl⟩ ⟨Nat.le_of_ble_eq_true rfl, Nat.le_of_ble_eq_true rfl⟩ (gPreV hG hE hx0 rfl) rfl hl.1 rfl (Nat.le_of_ble_eq_true rfl) d_ps_count_61 ⟨Nat.le_of_ble_eq_true rfl, Nat.le_of_ble_eq_true rfl⟩) (fun r61 h61 => ?_)
      refine g_reti (g_runS (As := [.int r61]) (rest := []) S lk_ps_177 k_in_bitCount (c_in_bitCount l Z G r61) ⟨rfl, rfl⟩ ⟨Nat.le_of_ble_eq_true rfl, Nat.le_of_ble_eq_true rfl⟩ (gPreS hG hE) rfl hl.1 rfl (Nat.le_of_ble_eq_true rfl) d_ps_count_64 ⟨Nat.le_of_ble_eq_true rfl, Nat.le_of_ble_eq_true rfl⟩) (fun r64 h64 => ?_)
      refine W.widen (k := 1) (n := 6) (Nat.le_of_ble_eq_true rfl) (Nat.le_of_ble_eq_true rfl) ?_
      exact vx_ret (W.iret hx hb hr (fun t9 ht9 hW9 => ⟨_, rfl, ⟨4, by omega, w1, by rw [h64, h61]; rfl⟩, ht9⟩) (fun _ h => nomatch h) d_ps_count_67)
