set_option maxHeartbeats 600000 in
set_option maxRecDepth 100000 in
theorem c_mo_brought (l : Launch) (Z : gZ) (G : gh) (mo : Nat) {u1 u2 u3 u4 u5 u6 u7 : Nat} {th : Int32} {C E M D : Nat} {fl : Int32} {cf mf ff gf sf tf bf : Nat → Int32} (hP : moP Z G mo u1 u2 u3 u4 u5 u6 u7 th C E M D fl cf mf ff gf sf tf bf) {tp : Int32} (hT : simT D tp tf) (hC : C ≤ 4) (hE8 : E ≤ 8) (sd : Int32) (k q : Nat) (hk : k < C) (hq : q < E) : Met l y_mo_brought (wd_mo_brought :: Gall) ({ frames := 1, cells := 0, slots := 0, locals := 23 }) (va_Pc [.ref mo, .int sd, .int (nI k), .int (nI q)] (gPure Z G)) (vp_Si (fun r : Int32 => r = zb (tb (makeC (nI D) tp C E sd) (8 * k + q)))) 0 0 (fun _ => False) := by
  refine Met.ofW (cc := b_mo_brought) (maxL := 6) (ret := (some .int)) (by decide) rfl ?_
  intro p e s m args below meth c s₁ B hml hv
  obtain ⟨rfl, hG, hE⟩ := hv
  have hx := B.exec
  have hb := B.bytes
  have hr := B.returns
  have hlocks := B.notSynchronized
  have S : CallFix p m c b_mo_brought 6 s _ Gall "PackSeedsModel" := ⟨hx, hb, hml, findClass_of_methodNamed B.named, fun w hw => atoms_spec (ws := wd_mo_brought :: Gall) B.pre w (List.mem_cons_of_mem _ hw)⟩
  have hl := lv_entry ([.ref mo, .int sd, .int (nI k), .int (nI q)]) (n := 6) (Nat.le_of_ble_eq_true rfl)
  rw [lg_entry_eq]
  generalize (lg_sl ([.ref mo, .int sd, .int (nI k), .int (nI q)]) ++ List.replicate (6 - (lg_sl ([.ref mo, .int sd, .int (nI k), .int (nI q)])).length) Slot.unset).toArray = ls at hl ⊢
  have hl : lv_has ls 6 [(0, .ref mo), (1, .int sd), (2, .int (nI k)), (3, .int (nI q))] := hl
  have hP0 := hP
  obtain ⟨hmo, hc1, hc2, hc3, hc4, hc5, hc6, hc7, n12, n45, n67⟩ := hP
  have hD1 := hT.1
  have hD16 := hT.2.1
  refine lv_iload_n hx hb d_mo_brought_0 rfl (lv_at hl 1 rfl) ?_
  refine lv_istore (lv' := [(4, .int sd), (0, .ref mo), (1, .int sd), (2, .int (nI k)), (3, .int (nI q))]) hx hb d_mo_brought_1 hl (by decide) rfl (fun ls hl => ?_)
  refine lv_iconst (v := nI 0) hx hb d_mo_brought_3 (by decide) ?_
  refine lv_istore (lv' := [(5, .int (nI 0)), (4, .int sd), (0, .ref mo), (1, .int sd), (2, .int (nI k)), (3, .int (nI q))]) hx hb d_mo_brought_4 hl (by decide) rfl (fun ls hl => ?_)
  refine g_ind (V := Nat × Int32) (fun (t, st) ls => (t ≤ E - 1 - q ∧ st = sti D tp sd t) ∧ lv_has ls 6 [(0, .ref mo), (1, .int sd), (2, .int (nI k)), (3, .int (nI q)), (4, .int st), (5, .int (nI t))]) (fun (t, st) => E - 1 - q - t) ?_ (0, sd) _ ⟨⟨Nat.zero_le _, rfl⟩, lv_sub hl [2, 3, 4, 5, 1, 0] rfl⟩
  intro v ls hI ih6
  obtain ⟨t, st⟩ := v
  obtain ⟨⟨ht, hst⟩, hl⟩ := hI
  refine lv_iload hx hb d_mo_brought_6 (lv_at hl 5 rfl) ?_
  refine lv_aload_n hx hb d_mo_brought_8 rfl (lv_at hl 0 rfl) ?_
  refine g_get S hE.1 hG hmo rfl in_mo 2 (by decide) tw_493 (fun _ h9 => h9) rfl d_mo_brought_9 ?_
  refine lv_iconst (v := 1) hx hb d_mo_brought_12 (by decide) ?_
  refine lv_isub hx hb d_mo_brought_13 ?_
  refine g_topi (y := nI (E - 1)) (nI_pred1 (by omega)) ?_
  refine lv_iload_n hx hb d_mo_brought_14 rfl (lv_at hl 3 rfl) ?_
  refine lv_isub hx hb d_mo_brought_15 ?_
  refine g_topi (y := nI (E - 1 - q)) (pk_sub (by omega)) ?_
  refine g_ge (tgt := 33) hx hb d_mo_brought_16 (by decide) (by omega) (by omega) (fun c16 => ?_) (fun c16 => ?_)
  · refine lv_iload hx hb d_mo_brought_33 (lv_at hl 4 rfl) ?_
    refine lv_iconst (v := nI 5) hx hb d_mo_brought_35 (by decide) ?_
    refine lv_iload_n hx hb d_mo_brought_36 rfl (lv_at hl 2 rfl) ?_
    refine lv_imul hx hb d_mo_brought_37 ?_
    refine g_topi (y := nI (5 * k)) (pk_mul 5 k) ?_
    refine lv_iconst (v := nI 1) hx hb d_mo_brought_38 (by decide) ?_
    refine lv_iadd hx hb d_mo_brought_39 ?_
    refine g_topi (y := nI ((5 * k) + 1)) (nI_add (5 * k) 1) ?_
    refine lv_aload_n hx hb d_mo_brought_40 rfl (lv_at hl 0 rfl) ?_
    refine g_get S hE.1 hG hmo rfl in_mo 9 (by decide) tw_500 (fun _ h9 => h9) rfl d_mo_brought_41 ?_
    refine lv_irem hx hb d_mo_brought_44 (nI_ne0 (by omega) (by omega)) ?_
    refine g_topi (y := nI ((5 * k + 1) % D)) (pk_rem (by omega) (by omega) (by omega)) ?_
    refine lv_ishr hx hb d_mo_brought_45 ?_
    refine lv_iconst (v := 1) hx hb d_mo_brought_46 (by decide) ?_
    refine lv_iand hx hb d_mo_brought_47 ?_
    refine g_topi (y := zb (tb st ((5 * k + 1) % D))) (shr1 st (modD hD1 hD16)) ?_
    exact W.iret hx hb hr (fun t9 ht9 hW9 => ⟨_, rfl, (by rw [tb_make' hD1 hD16 hC hE8 hk hq, hst, show t = E - 1 - q by omega]), ht9⟩) (fun _ h => nomatch h) d_mo_brought_48
  · refine lv_aload_n hx hb d_mo_brought_19 rfl (lv_at hl 0 rfl) ?_
    refine lv_iload hx hb d_mo_brought_20 (lv_at hl 4 rfl) ?_
    refine g_reti (g_runV (As := [.int st]) (rest := []) S lk_mo_74 k_mo_step (c_mo_step l Z G mo hP0 hT st) ⟨rfl, rfl⟩ ⟨Nat.le_of_ble_eq_true rfl, Nat.le_of_ble_eq_true rfl⟩ (gPreV hG hE hmo rfl) rfl hl.1 rfl (Nat.le_of_ble_eq_true rfl) d_mo_brought_22 ⟨Nat.le_of_ble_eq_true rfl, Nat.le_of_ble_eq_true rfl⟩) (fun r22 h22 => ?_)
    refine lv_istore (lv' := [(4, .int r22), (0, .ref mo), (1, .int sd), (2, .int (nI k)), (3, .int (nI q)), (5, .int (nI t))]) hx hb d_mo_brought_25 hl (by decide) rfl (fun ls hl => ?_)
    refine lv_iinc (v := nI (t + 1)) (lv' := [(5, .int (nI (t + 1))), (4, .int r22), (0, .ref mo), (1, .int sd), (2, .int (nI k)), (3, .int (nI q))]) hx hb d_mo_brought_27 hl (k := 5) rfl (show nI t + 1 = _ from nI_1 t) (by decide) rfl (fun ls hl => ?_)
    refine lv_goto (tgt := 6) hx hb d_mo_brought_30 (by decide) ?_
    exact ih6 ((t + 1), r22) _ ⟨⟨by omega, by rw [h22, hst]; rfl⟩, lv_sub hl [2, 3, 4, 5, 1, 0] rfl⟩ (by first | omega | (simp only []; omega))

set_option maxHeartbeats 600000 in
set_option maxRecDepth 100000 in
theorem c_mo_makes (l : Launch) (Z : gZ) (G : gh) (mo : Nat) {u1 u2 u3 u4 u5 u6 u7 : Nat} {th : Int32} {C E M D : Nat} {fl : Int32} {cf mf ff gf sf tf bf : Nat → Int32} (hP : moP Z G mo u1 u2 u3 u4 u5 u6 u7 th C E M D fl cf mf ff gf sf tf bf) {pt : Nat → Option Nat} {pd : Nat → Pat} (hR : Sim C E M pt pd cf mf ff gf sf) {tp : Int32} (hT : simT D tp tf) (hC : C ≤ 4) (hE8 : E ≤ 8) (sd : Int32) (i : Nat) (hi : i < M) (hg : gf i = 0) : Met l y_mo_makes (wd_mo_makes :: Gall) ({ frames := 1, cells := 0, slots := 0, locals := 23 }) (va_Pc [.ref mo, .int sd, .int (nI i)] (gPure Z G)) (vp_Si (fun r : Int32 => (r = 1 ∧ mkOk D tp C E (pd i) sd) ∨ (r = 0 ∧ ¬ mkOk D tp C E (pd i) sd))) 0 0 (fun _ => False) := by
  refine Met.ofW (cc := b_mo_makes) (maxL := 7) (ret := (some .boolean)) (by decide) rfl ?_
  intro p e s m args below meth c s₁ B hml hv
  obtain ⟨rfl, hG, hE⟩ := hv
  have hx := B.exec
  have hb := B.bytes
  have hr := B.returns
  have hlocks := B.notSynchronized
  have S : CallFix p m c b_mo_makes 7 s _ Gall "PackSeedsModel" := ⟨hx, hb, hml, findClass_of_methodNamed B.named, fun w hw => atoms_spec (ws := wd_mo_makes :: Gall) B.pre w (List.mem_cons_of_mem _ hw)⟩
  have hl := lv_entry ([.ref mo, .int sd, .int (nI i)]) (n := 7) (Nat.le_of_ble_eq_true rfl)
  rw [lg_entry_eq]
  generalize (lg_sl ([.ref mo, .int sd, .int (nI i)]) ++ List.replicate (7 - (lg_sl ([.ref mo, .int sd, .int (nI i)])).length) Slot.unset).toArray = ls at hl ⊢
  have hl : lv_has ls 7 [(0, .ref mo), (1, .int sd), (2, .int (nI i))] := hl
  have hP0 := hP
  obtain ⟨hmo, hc1, hc2, hc3, hc4, hc5, hc6, hc7, n12, n45, n67⟩ := hP
  have hM24 := hR.1
  have hD1 := hT.1
  have hD16 := hT.2.1
  have hmk := mk_ok (tp := tp) (s := sd) hD1 hD16 hC hE8 (hR.2.2.2.2.1 i hi hg)
  refine lv_iload_n hx hb d_mo_makes_0 rfl (lv_at hl 1 rfl) ?_
  refine lv_istore_n (lv' := [(3, .int sd), (0, .ref mo), (1, .int sd), (2, .int (nI i))]) hx hb d_mo_makes_1 rfl hl (by decide) rfl (fun ls hl => ?_)
  refine lv_aload_n hx hb d_mo_makes_2 rfl (lv_at hl 1 rfl) ?_
  refine g_get S hE.1 hG hmo rfl in_mo 2 (by decide) tw_493 (fun _ h9 => h9) rfl d_mo_makes_3 ?_
  refine lv_iconst (v := 1) hx hb d_mo_makes_6 (by decide) ?_
  refine lv_isub hx hb d_mo_makes_7 ?_
  refine g_topi (y := dn E) (dn_sub1 E) ?_
  refine lv_istore (lv' := [(4, .int (dn E)), (3, .int sd), (0, .ref mo), (1, .int sd), (2, .int (nI i))]) hx hb d_mo_makes_8 hl (by decide) rfl (fun ls hl => ?_)
  refine g_ind (V := Nat × Int32) (fun (j, st) ls => (j ≤ E ∧ st = sti D tp sd (E - j) ∧ ∀ c, c < C → ∀ q, q < E → j ≤ q → okc D tp E cf i sd c q) ∧ lv_has ls 7 [(0, .ref mo), (1, .int sd), (2, .int (nI i)), (3, .int st), (4, .int (dn j))]) (fun (j, st) => j) ?_ (E, sd) _ ⟨⟨Nat.le_refl _, by rw [Nat.sub_self]; rfl, fun c hc q hq h9 => by omega⟩, lv_sub hl [2, 3, 4, 1, 0] rfl⟩
  intro v ls hI ih10
  obtain ⟨j, st⟩ := v
  obtain ⟨⟨hj, hst, hok⟩, hl⟩ := hI
  cases j with
  | zero =>
    have hl : lv_has ls 7 [(0, .ref mo), (1, .int sd), (2, .int (nI i)), (3, .int st), (4, .int (-1))] := hl
    refine lv_iload hx hb d_mo_makes_10 (lv_at hl 4 rfl) ?_
    refine lv_if_lt (tgt := 89) hx hb d_mo_makes_12 (by decide) (fun c12 => ?_) (fun c12 => absurd c12 (by decide))
    refine lv_iconst (v := 1) hx hb d_mo_makes_89 (by decide) ?_
    exact W.zret hx hb hr rfl (fun t9 ht9 hW9 => ⟨_, rfl, (Or.inl ⟨rfl, hmk.mp (fun c9 hc9 q9 hq9 => hok c9 hc9 q9 hq9 (Nat.zero_le _))⟩), ht9⟩) (fun _ h => nomatch h) d_mo_makes_90
  | succ q =>
    have hl : lv_has ls 7 [(0, .ref mo), (1, .int sd), (2, .int (nI i)), (3, .int st), (4, .int (nI q))] := hl
    refine lv_iload hx hb d_mo_makes_10 (lv_at hl 4 rfl) ?_
    refine lv_if_lt (tgt := 89) hx hb d_mo_makes_12 (by decide) (fun c12 => absurd c12 (nI_pos (by omega))) (fun c12 => ?_)
    refine lv_iconst (v := nI 0) hx hb d_mo_makes_15 (by decide) ?_
    refine lv_istore (lv' := [(5, .int (nI 0)), (0, .ref mo), (1, .int sd), (2, .int (nI i)), (3, .int st), (4, .int (nI q))]) hx hb d_mo_makes_16 hl (by decide) rfl (fun ls hl => ?_)
    refine g_ind (V := Nat) (fun c ls => (c ≤ C ∧ ∀ c9, c9 < c → okc D tp E cf i sd c9 q) ∧ lv_has ls 7 [(0, .ref mo), (1, .int sd), (2, .int (nI i)), (3, .int st), (4, .int (nI q)), (5, .int (nI c))]) (fun c => C - c) ?_ 0 _ ⟨⟨Nat.zero_le _, fun c9 h9 => by omega⟩, lv_sub hl [1, 2, 3, 4, 5, 0] rfl⟩
    intro v ls hI ih18
    obtain ⟨c, hvv⟩ : ∃ y, y = v := ⟨_, rfl⟩
    subst hvv
    obtain ⟨⟨hc, hoc⟩, hl⟩ := hI
    refine lv_iload hx hb d_mo_makes_18 (lv_at hl 5 rfl) ?_
    refine lv_aload_n hx hb d_mo_makes_20 rfl (lv_at hl 0 rfl) ?_
    refine g_get S hE.1 hG hmo rfl in_mo 1 (by decide) tw_492 (fun _ h9 => h9) rfl d_mo_makes_21 ?_
    refine g_ge (tgt := 77) hx hb d_mo_makes_24 (by decide) (by omega) (by omega) (fun c24 => ?_) (fun c24 => ?_)
    · refine lv_aload_n hx hb d_mo_makes_77 rfl (lv_at hl 0 rfl) ?_
      refine lv_iload_n hx hb d_mo_makes_78 rfl (lv_at hl 3 rfl) ?_
      refine g_reti (g_runV (As := [.int st]) (rest := []) S lk_mo_74 k_mo_step (c_mo_step l Z G mo hP0 hT st) ⟨rfl, rfl⟩ ⟨Nat.le_of_ble_eq_true rfl, Nat.le_of_ble_eq_true rfl⟩ (gPreV hG hE hmo rfl) rfl hl.1 rfl (Nat.le_of_ble_eq_true rfl) d_mo_makes_79 ⟨Nat.le_of_ble_eq_true rfl, Nat.le_of_ble_eq_true rfl⟩) (fun r79 h79 => ?_)
      refine lv_istore_n (lv' := [(3, .int r79), (0, .ref mo), (1, .int sd), (2, .int (nI i)), (4, .int (nI q)), (5, .int (nI c))]) hx hb d_mo_makes_82 rfl hl (by decide) rfl (fun ls hl => ?_)
      refine lv_iinc (v := dn q) (lv' := [(4, .int (dn q)), (3, .int r79), (0, .ref mo), (1, .int sd), (2, .int (nI i)), (5, .int (nI c))]) hx hb d_mo_makes_83 hl (k := 4) rfl (dn_pred q) (by decide) rfl (fun ls hl => ?_)
      refine lv_goto (tgt := 10) hx hb d_mo_makes_86 (by decide) ?_
      exact ih10 (q, r79) _ ⟨⟨by omega, by rw [h79, hst, show E - q = (E - (q + 1)) + 1 by omega]; rfl, fun c9 hc9 q9 hq9 h9 => by
          by_cases e9 : q9 = q
          · subst e9; exact hoc c9 (by omega)
          · exact hok c9 hc9 q9 hq9 (by omega)⟩, lv_sub hl [2, 3, 4, 1, 0] rfl⟩ (by first | omega | (simp only []; omega))
    · refine lv_aload_n hx hb d_mo_makes_27 rfl (lv_at hl 0 rfl) ?_
      refine g_get S hE.1 hG hmo rfl in_mo 3 (by decide) tw_494 (fun _ h9 => h9) rfl d_mo_makes_28 ?_
      refine lv_aload_n hx hb d_mo_makes_31 rfl (lv_at hl 0 rfl) ?_
      refine lv_iload_n hx hb d_mo_makes_32 rfl (lv_at hl 2 rfl) ?_
      refine lv_iload hx hb d_mo_makes_33 (lv_at hl 5 rfl) ?_
      refine lv_iload hx hb d_mo_makes_35 (lv_at hl 4 rfl) ?_
      refine g_reti (g_runV (As := [.int (nI i), .int (nI c), .int (nI q)]) (rest := [.ref u1]) S lk_mo_56 k_mo_place (c_mo_place l Z G mo i c q) ⟨rfl, rfl⟩ ⟨Nat.le_of_ble_eq_true rfl, Nat.le_of_ble_eq_true rfl⟩ (gPreV hG hE hmo rfl) rfl hl.1 rfl (Nat.le_of_ble_eq_true rfl) d_mo_makes_37 ⟨Nat.le_of_ble_eq_true rfl, Nat.le_of_ble_eq_true rfl⟩) (fun r37 h37 => ?_)
      refine g_topi (y := nI (32 * i + (8 * c + q))) h37 ?_
      refine g_iald S hE.1 hG hc1 1 rfl (vp_in_nI (by omega) (by omega)) d_mo_makes_40 ?_
      refine g_topi (congrArg cf (nI_clamp (show (32 * i + (8 * c + q)) < 2 ^ 31 by omega))) ?_
      refine lv_topi (fun x41 e41 => ?_)
      refine lv_istore (lv' := [(6, .int x41), (0, .ref mo), (1, .int sd), (2, .int (nI i)), (3, .int st), (4, .int (nI q)), (5, .int (nI c))]) hx hb d_mo_makes_41 hl (by decide) rfl (fun ls hl => ?_)
      refine lv_iload hx hb d_mo_makes_43 (lv_at hl 0 rfl) ?_
      refine lv_iconst (v := (-1)) hx hb d_mo_makes_45 (by decide) ?_
      refine lv_icmp_eq (tgt := 71) hx hb d_mo_makes_46 (by decide) (fun c46 => ?_) (fun c46 => ?_)
      · refine lv_iinc (v := nI (c + 1)) (lv' := [(5, .int (nI (c + 1))), (6, .int x41), (0, .ref mo), (1, .int sd), (2, .int (nI i)), (3, .int st), (4, .int (nI q))]) hx hb d_mo_makes_71 hl (k := 6) rfl (show nI c + 1 = _ from nI_1 c) (by decide) rfl (fun ls hl => ?_)
        refine lv_goto (tgt := 18) hx hb d_mo_makes_74 (by decide) ?_
        exact ih18 (c + 1) _ ⟨⟨by omega, fun c9 h9 => by
            by_cases e9 : c9 = c
            · subst e9; unfold okc; rw [← e41, show E - 1 - q = E - (q + 1) by omega, ← hst]; first | exact Or.inl c46 | exact Or.inr c66
            · exact hoc c9 (by omega)⟩, lv_sub hl [2, 3, 4, 5, 6, 0] rfl⟩ (by first | omega | (simp only []; omega))
      · refine lv_iload hx hb d_mo_makes_49 (lv_at hl 0 rfl) ?_
        refine lv_iload_n hx hb d_mo_makes_51 rfl (lv_at hl 4 rfl) ?_
        refine lv_iconst (v := nI 5) hx hb d_mo_makes_52 (by decide) ?_
        refine lv_iload hx hb d_mo_makes_53 (lv_at hl 6 rfl) ?_
        refine lv_imul hx hb d_mo_makes_55 ?_
        refine g_topi (y := nI (5 * c)) (pk_mul 5 c) ?_
        refine lv_iconst (v := nI 1) hx hb d_mo_makes_56 (by decide) ?_
        refine lv_iadd hx hb d_mo_makes_57 ?_
        refine g_topi (y := nI ((5 * c) + 1)) (nI_add (5 * c) 1) ?_
        refine lv_aload_n hx hb d_mo_makes_58 rfl (lv_at hl 1 rfl) ?_
        refine g_get S hE.1 hG hmo rfl in_mo 9 (by decide) tw_500 (fun _ h9 => h9) rfl d_mo_makes_59 ?_
        refine lv_irem hx hb d_mo_makes_62 (nI_ne0 (by omega) (by omega)) ?_
        refine g_topi (y := nI ((5 * c + 1) % D)) (pk_rem (by omega) (by omega) (by omega)) ?_
        refine lv_ishr hx hb d_mo_makes_63 ?_
        refine lv_iconst (v := 1) hx hb d_mo_makes_64 (by decide) ?_
        refine lv_iand hx hb d_mo_makes_65 ?_
        refine g_topi (y := zb (tb st ((5 * c + 1) % D))) (shr1 st (modD hD1 hD16)) ?_
        refine lv_icmp_eq (tgt := 71) hx hb d_mo_makes_66 (by decide) (fun c66 => ?_) (fun c66 => ?_)
        · refine lv_iinc (v := nI (c + 1)) (lv' := [(5, .int (nI (c + 1))), (6, .int x41), (0, .ref mo), (1, .int sd), (2, .int (nI i)), (3, .int st), (4, .int (nI q))]) hx hb d_mo_makes_71 hl (k := 6) rfl (show nI c + 1 = _ from nI_1 c) (by decide) rfl (fun ls hl => ?_)
          refine lv_goto (tgt := 18) hx hb d_mo_makes_74 (by decide) ?_
          exact ih18 (c + 1) _ ⟨⟨by omega, fun c9 h9 => by
              by_cases e9 : c9 = c
              · subst e9; unfold okc; rw [← e41, show E - 1 - q = E - (q + 1) by omega, ← hst]; first | exact Or.inl c46 | exact Or.inr c66
              · exact hoc c9 (by omega)⟩, lv_sub hl [2, 3, 4, 5, 6, 0] rfl⟩ (by first | omega | (simp only []; omega))
        · refine lv_iconst (v := 0) hx hb d_mo_makes_69 (by decide) ?_
          exact W.zret hx hb hr rfl (fun t9 ht9 hW9 => ⟨_, rfl, (Or.inr ⟨rfl, fun z => by
              rcases hmk.mpr z c (by omega) q (by omega) with h9 | h9
              · exact c46 (by rw [e41]; exact h9)
              · exact c66 (by rw [e41, hst, show E - (q + 1) = E - 1 - q by omega]; exact h9)⟩), ht9⟩) (fun _ h => nomatch h) d_mo_makes_70

set_option maxHeartbeats 600000 in
set_option maxRecDepth 100000 in
theorem c_mo_bitOf (l : Launch) (Z : gZ) (G : gh) (mo : Nat) {u1 u2 u3 u4 u5 u6 u7 : Nat} {th : Int32} {C E M D : Nat} {fl : Int32} {cf mf ff gf sf tf bf : Nat → Int32} (hP : moP Z G mo u1 u2 u3 u4 u5 u6 u7 th C E M D fl cf mf ff gf sf tf bf) {pt : Nat → Option Nat} {pd : Nat → Pat} (hR : Sim C E M pt pd cf mf ff gf sf) {tp : Int32} (hT : simT D tp tf) (hC : C ≤ 4) (hE8 : E ≤ 8) (hfl : fl = 0 ∨ fl = 1 ∨ fl = 2) (i : Nat) (hi : i < M) (hg : gf i = 0) (k q : Nat) (hk : k < C) (hq : q < E) : Met l y_mo_bitOf (wd_mo_bitOf :: Gall) ({ frames := 2, cells := 0, slots := 0, locals := 48 }) (va_Pc [.ref mo, .int (nI i), .int (nI k), .int (nI q)] (gPure Z G)) (vp_Si (fun r : Int32 => r = zb (tb (bitsC (nI D) tp fl C E (pd i)) (8 * k + q)))) 0 0 (fun _ => False) := by
  refine Met.ofW (cc := b_mo_bitOf) (maxL := 6) (ret := (some .int)) (by decide) rfl ?_
  intro p e s m args below meth c s₁ B hml hv
  obtain ⟨rfl, hG, hE⟩ := hv
  have hx := B.exec
  have hb := B.bytes
  have hr := B.returns
  have hlocks := B.notSynchronized
  have S : CallFix p m c b_mo_bitOf 6 s _ Gall "PackSeedsModel" := ⟨hx, hb, hml, findClass_of_methodNamed B.named, fun w hw => atoms_spec (ws := wd_mo_bitOf :: Gall) B.pre w (List.mem_cons_of_mem _ hw)⟩
  have hl := lv_entry ([.ref mo, .int (nI i), .int (nI k), .int (nI q)]) (n := 6) (Nat.le_of_ble_eq_true rfl)
  rw [lg_entry_eq]
  generalize (lg_sl ([.ref mo, .int (nI i), .int (nI k), .int (nI q)]) ++ List.replicate (6 - (lg_sl ([.ref mo, .int (nI i), .int (nI k), .int (nI q)])).length) Slot.unset).toArray = ls at hl ⊢
  have hl : lv_has ls 6 [(0, .ref mo), (1, .int (nI i)), (2, .int (nI k)), (3, .int (nI q))] := hl
  have hP0 := hP
  obtain ⟨hmo, hc1, hc2, hc3, hc4, hc5, hc6, hc7, n12, n45, n67⟩ := hP
  have hM24 := hR.1
  have hS := hR.2.2.2.2.1 i hi hg
  refine lv_aload_n hx hb d_mo_bitOf_0 rfl (lv_at hl 0 rfl) ?_
  refine g_get S hE.1 hG hmo rfl in_mo 7 (by decide) tw_498 (fun _ h9 => h9) rfl d_mo_bitOf_1 ?_
  refine lv_iload_n hx hb d_mo_bitOf_4 rfl (lv_at hl 1 rfl) ?_
  refine g_iald S hE.1 hG hc5 1 rfl (vp_in_nI (by omega) (by omega)) d_mo_bitOf_5 ?_
  refine g_topi (congrArg sf (nI_clamp (show i < 2 ^ 31 by omega))) ?_
  refine lv_iconst (v := (-1)) hx hb d_mo_bitOf_6 (by decide) ?_
  refine lv_icmp_eq (tgt := 23) hx hb d_mo_bitOf_7 (by decide) (fun c7 => ?_) (fun c7 => ?_)
  · refine lv_aload_n hx hb d_mo_bitOf_23 rfl (lv_at hl 0 rfl) ?_
    refine g_get S hE.1 hG hmo rfl in_mo 3 (by decide) tw_494 (fun _ h9 => h9) rfl d_mo_bitOf_24 ?_
    refine lv_aload_n hx hb d_mo_bitOf_27 rfl (lv_at hl 0 rfl) ?_
    refine lv_iload_n hx hb d_mo_bitOf_28 rfl (lv_at hl 1 rfl) ?_
    refine lv_iload_n hx hb d_mo_bitOf_29 rfl (lv_at hl 2 rfl) ?_
    refine lv_iload_n hx hb d_mo_bitOf_30 rfl (lv_at hl 3 rfl) ?_
    refine g_reti (g_runV (As := [.int (nI i), .int (nI k), .int (nI q)]) (rest := [.ref u1]) S lk_mo_56 k_mo_place (c_mo_place l Z G mo i k q) ⟨rfl, rfl⟩ ⟨Nat.le_of_ble_eq_true rfl, Nat.le_of_ble_eq_true rfl⟩ (gPreV hG hE hmo rfl) rfl hl.1 rfl (Nat.le_of_ble_eq_true rfl) d_mo_bitOf_31 ⟨Nat.le_of_ble_eq_true rfl, Nat.le_of_ble_eq_true rfl⟩) (fun r31 h31 => ?_)
    refine g_topi (y := nI (32 * i + (8 * k + q))) h31 ?_
    refine g_iald S hE.1 hG hc1 1 rfl (vp_in_nI (by omega) (by omega)) d_mo_bitOf_34 ?_
    refine g_topi (congrArg cf (nI_clamp (show (32 * i + (8 * k + q)) < 2 ^ 31 by omega))) ?_
    refine lv_topi (fun x35 e35 => ?_)
    refine lv_istore (lv' := [(4, .int x35), (0, .ref mo), (1, .int (nI i)), (2, .int (nI k)), (3, .int (nI q))]) hx hb d_mo_bitOf_35 hl (by decide) rfl (fun ls hl => ?_)
    refine lv_iload hx hb d_mo_bitOf_37 (lv_at hl 0 rfl) ?_
    refine lv_iconst (v := (-1)) hx hb d_mo_bitOf_39 (by decide) ?_
    refine lv_icmp_ne (tgt := 51) hx hb d_mo_bitOf_40 (by decide) (fun c40 => ?_) (fun c40 => ?_)
    · refine lv_iload hx hb d_mo_bitOf_51 (lv_at hl 0 rfl) ?_
      refine lv_iconst (v := (-1)) hx hb d_mo_bitOf_53 (by decide) ?_
      refine lv_icmp_eq (tgt := 62) hx hb d_mo_bitOf_54 (by decide) (fun c54 => ?_) (fun c54 => ?_)
      · refine lv_aload_n hx hb d_mo_bitOf_62 rfl (lv_at hl 1 rfl) ?_
        refine g_get S hE.1 hG hmo rfl in_mo 11 (by decide) tw_502 (fun _ h9 => h9) rfl d_mo_bitOf_63 ?_
        exact W.iret hx hb hr (fun t9 ht9 hW9 => ⟨_, rfl, (by first | (rw [e35]; exact bits_own hS c7 hC hE8 hk hq (by rw [← e35]; exact c54)) | exact bits_fl hS c7 hC hE8 hk hq hfl c48 (by rw [← e35]; exact c54) | exact absurd c54 c40), ht9⟩) (fun _ h => nomatch h) d_mo_bitOf_66
      · refine lv_iload hx hb d_mo_bitOf_57 (lv_at hl 0 rfl) ?_
        refine lv_goto (tgt := 66) hx hb d_mo_bitOf_59 (by decide) ?_
        exact W.iret hx hb hr (fun t9 ht9 hW9 => ⟨_, rfl, (by first | (rw [e35]; exact bits_own hS c7 hC hE8 hk hq (by rw [← e35]; exact c54)) | exact bits_fl hS c7 hC hE8 hk hq hfl c48 (by rw [← e35]; exact c54) | exact absurd c54 c40), ht9⟩) (fun _ h => nomatch h) d_mo_bitOf_66
    · refine lv_aload_n hx hb d_mo_bitOf_43 rfl (lv_at hl 1 rfl) ?_
      refine g_get S hE.1 hG hmo rfl in_mo 11 (by decide) tw_502 (fun _ h9 => h9) rfl d_mo_bitOf_44 ?_
      refine lv_iconst (v := 2) hx hb d_mo_bitOf_47 (by decide) ?_
      refine lv_icmp_ge (tgt := 67) hx hb d_mo_bitOf_48 (by decide) (fun c48 => ?_) (fun c48 => ?_)
      · refine lv_iload_n hx hb d_mo_bitOf_67 rfl (lv_at hl 4 rfl) ?_
        refine lv_iconst (v := 1) hx hb d_mo_bitOf_68 (by decide) ?_
        refine lv_isub hx hb d_mo_bitOf_69 ?_
        refine g_topi (y := dn q) (dn_sub1 q) ?_
        refine lv_istore (lv' := [(5, .int (dn q)), (4, .int x35), (0, .ref mo), (1, .int (nI i)), (2, .int (nI k)), (3, .int (nI q))]) hx hb d_mo_bitOf_70 hl (by decide) rfl (fun ls hl => ?_)
        refine g_ind (V := Nat) (fun j ls => (j ≤ q ∧ dnS (fun e => cf (32 * i + (8 * k + e))) q = dnS (fun e => cf (32 * i + (8 * k + e))) j) ∧ lv_has ls 6 [(0, .ref mo), (1, .int (nI i)), (2, .int (nI k)), (3, .int (nI q)), (5, .int (dn j))]) (fun j => j) ?_ q _ ⟨⟨Nat.le_refl _, rfl⟩, lv_sub hl [2, 3, 4, 5, 0] rfl⟩
        intro v ls hI ih72
        obtain ⟨j, hvv⟩ : ∃ y, y = v := ⟨_, rfl⟩
        subst hvv
        obtain ⟨⟨hj, hv⟩, hl⟩ := hI
        cases j with
        | zero =>
          have hl : lv_has ls 6 [(0, .ref mo), (1, .int (nI i)), (2, .int (nI k)), (3, .int (nI q)), (5, .int (-1))] := hl
          refine lv_iload hx hb d_mo_bitOf_72 (lv_at hl 4 rfl) ?_
          refine lv_if_lt (tgt := 114) hx hb d_mo_bitOf_74 (by decide) (fun c74 => ?_) (fun c74 => absurd c74 (by decide))
          refine lv_iload_n hx hb d_mo_bitOf_114 rfl (lv_at hl 3 rfl) ?_
          refine lv_iconst (v := nI 1) hx hb d_mo_bitOf_115 (by decide) ?_
          refine lv_iadd hx hb d_mo_bitOf_116 ?_
          refine g_topi (y := nI (q + 1)) (nI_add q 1) ?_
          refine lv_istore (lv' := [(5, .int (nI (q + 1))), (0, .ref mo), (1, .int (nI i)), (2, .int (nI k)), (3, .int (nI q))]) hx hb d_mo_bitOf_117 hl (by decide) rfl (fun ls hl => ?_)
          refine g_ind (V := Nat) (fun i2 ls => (i2 ≤ E ∧ upS (fun e => cf (32 * i + (8 * k + e))) (q + 1) (E - (q + 1)) = upS (fun e => cf (32 * i + (8 * k + e))) i2 (E - i2)) ∧ lv_has ls 6 [(0, .ref mo), (1, .int (nI i)), (2, .int (nI k)), (3, .int (nI q)), (5, .int (nI i2))]) (fun i2 => E - i2) ?_ (q + 1) _ ⟨⟨by omega, rfl⟩, lv_sub hl [1, 2, 3, 4, 0] rfl⟩
          intro v ls hI ih119
          obtain ⟨i2, hvv⟩ : ∃ y, y = v := ⟨_, rfl⟩
          subst hvv
          obtain ⟨⟨hi2, hv2⟩, hl⟩ := hI
          refine lv_iload hx hb d_mo_bitOf_119 (lv_at hl 4 rfl) ?_
          refine lv_aload_n hx hb d_mo_bitOf_121 rfl (lv_at hl 0 rfl) ?_
          refine g_get S hE.1 hG hmo rfl in_mo 2 (by decide) tw_493 (fun _ h9 => h9) rfl d_mo_bitOf_122 ?_
          refine g_ge (tgt := 165) hx hb d_mo_bitOf_125 (by decide) (by omega) (by omega) (fun c125 => ?_) (fun c125 => ?_)
          · refine lv_iconst (v := 0) hx hb d_mo_bitOf_165 (by decide) ?_
            exact W.iret hx hb hr (fun t9 ht9 hW9 => ⟨_, rfl, (bits_nr hS c7 hC hE8 hk hq hfl c48 (nc_no (by rw [← e35]; exact c40) hv (by rw [hv2, show E - i2 = 0 by omega]; rfl)) (Or.inl rfl)), ht9⟩) (fun _ h => nomatch h) d_mo_bitOf_166
          · refine lv_aload_n hx hb d_mo_bitOf_128 rfl (lv_at hl 0 rfl) ?_
            refine g_get S hE.1 hG hmo rfl in_mo 3 (by decide) tw_494 (fun _ h9 => h9) rfl d_mo_bitOf_129 ?_
            refine lv_aload_n hx hb d_mo_bitOf_132 rfl (lv_at hl 0 rfl) ?_
            refine lv_iload_n hx hb d_mo_bitOf_133 rfl (lv_at hl 1 rfl) ?_
            refine lv_iload_n hx hb d_mo_bitOf_134 rfl (lv_at hl 2 rfl) ?_
            refine lv_iload hx hb d_mo_bitOf_135 (lv_at hl 4 rfl) ?_
            refine g_reti (g_runV (As := [.int (nI i), .int (nI k), .int (nI i2)]) (rest := [.ref u1]) S lk_mo_56 k_mo_place (c_mo_place l Z G mo i k i2) ⟨rfl, rfl⟩ ⟨Nat.le_of_ble_eq_true rfl, Nat.le_of_ble_eq_true rfl⟩ (gPreV hG hE hmo rfl) rfl hl.1 rfl (Nat.le_of_ble_eq_true rfl) d_mo_bitOf_137 ⟨Nat.le_of_ble_eq_true rfl, Nat.le_of_ble_eq_true rfl⟩) (fun r137 h137 => ?_)
            refine g_topi (y := nI (32 * i + (8 * k + i2))) h137 ?_
            refine g_iald S hE.1 hG hc1 1 rfl (vp_in_nI (by omega) (by omega)) d_mo_bitOf_140 ?_
            refine g_topi (congrArg cf (nI_clamp (show (32 * i + (8 * k + i2)) < 2 ^ 31 by omega))) ?_
            refine lv_iconst (v := (-1)) hx hb d_mo_bitOf_141 (by decide) ?_
            refine lv_icmp_eq (tgt := 159) hx hb d_mo_bitOf_142 (by decide) (fun c142 => ?_) (fun c142 => ?_)
            · refine lv_iinc (v := nI (i2 + 1)) (lv' := [(5, .int (nI (i2 + 1))), (0, .ref mo), (1, .int (nI i)), (2, .int (nI k)), (3, .int (nI q))]) hx hb d_mo_bitOf_159 hl (k := 4) rfl (show nI i2 + 1 = _ from nI_1 i2) (by decide) rfl (fun ls hl => ?_)
              refine lv_goto (tgt := 119) hx hb d_mo_bitOf_162 (by decide) ?_
              exact ih119 (i2 + 1) _ ⟨⟨by omega, by rw [hv2, upS_s _ (by omega), if_pos c142]⟩, lv_sub hl [1, 2, 3, 4, 0] rfl⟩ (by first | omega | (simp only []; omega))
            · refine lv_aload_n hx hb d_mo_bitOf_145 rfl (lv_at hl 0 rfl) ?_
              refine g_get S hE.1 hG hmo rfl in_mo 3 (by decide) tw_494 (fun _ h9 => h9) rfl d_mo_bitOf_146 ?_
              refine lv_aload_n hx hb d_mo_bitOf_149 rfl (lv_at hl 0 rfl) ?_
              refine lv_iload_n hx hb d_mo_bitOf_150 rfl (lv_at hl 1 rfl) ?_
              refine lv_iload_n hx hb d_mo_bitOf_151 rfl (lv_at hl 2 rfl) ?_
              refine lv_iload hx hb d_mo_bitOf_152 (lv_at hl 4 rfl) ?_
              refine g_reti (g_runV (As := [.int (nI i), .int (nI k), .int (nI i2)]) (rest := [.ref u1]) S lk_mo_56 k_mo_place (c_mo_place l Z G mo i k i2) ⟨rfl, rfl⟩ ⟨Nat.le_of_ble_eq_true rfl, Nat.le_of_ble_eq_true rfl⟩ (gPreV hG hE hmo rfl) rfl hl.1 rfl (Nat.le_of_ble_eq_true rfl) d_mo_bitOf_154 ⟨Nat.le_of_ble_eq_true rfl, Nat.le_of_ble_eq_true rfl⟩) (fun r154 h154 => ?_)
              refine g_topi (y := nI (32 * i + (8 * k + i2))) h154 ?_
              refine g_iald S hE.1 hG hc1 1 rfl (vp_in_nI (by omega) (by omega)) d_mo_bitOf_157 ?_
              refine g_topi (congrArg cf (nI_clamp (show (32 * i + (8 * k + i2)) < 2 ^ 31 by omega))) ?_
              exact W.iret hx hb hr (fun t9 ht9 hW9 => ⟨_, rfl, (bits_nr hS c7 hC hE8 hk hq hfl c48 (nc_up (by rw [← e35]; exact c40) hv (by rw [hv2, upS_s _ (by omega), if_neg c142]) c142) (cf_01 hS (by omega) c142)), ht9⟩) (fun _ h => nomatch h) d_mo_bitOf_158
        | succ w =>
          have hl : lv_has ls 6 [(0, .ref mo), (1, .int (nI i)), (2, .int (nI k)), (3, .int (nI q)), (5, .int (nI w))] := hl
          refine lv_iload hx hb d_mo_bitOf_72 (lv_at hl 4 rfl) ?_
          refine lv_if_lt (tgt := 114) hx hb d_mo_bitOf_74 (by decide) (fun c74 => absurd c74 (nI_pos (by omega))) (fun c74 => ?_)
          refine lv_aload_n hx hb d_mo_bitOf_77 rfl (lv_at hl 0 rfl) ?_
          refine g_get S hE.1 hG hmo rfl in_mo 3 (by decide) tw_494 (fun _ h9 => h9) rfl d_mo_bitOf_78 ?_
          refine lv_aload_n hx hb d_mo_bitOf_81 rfl (lv_at hl 0 rfl) ?_
          refine lv_iload_n hx hb d_mo_bitOf_82 rfl (lv_at hl 1 rfl) ?_
          refine lv_iload_n hx hb d_mo_bitOf_83 rfl (lv_at hl 2 rfl) ?_
          refine lv_iload hx hb d_mo_bitOf_84 (lv_at hl 4 rfl) ?_
          refine g_reti (g_runV (As := [.int (nI i), .int (nI k), .int (nI w)]) (rest := [.ref u1]) S lk_mo_56 k_mo_place (c_mo_place l Z G mo i k w) ⟨rfl, rfl⟩ ⟨Nat.le_of_ble_eq_true rfl, Nat.le_of_ble_eq_true rfl⟩ (gPreV hG hE hmo rfl) rfl hl.1 rfl (Nat.le_of_ble_eq_true rfl) d_mo_bitOf_86 ⟨Nat.le_of_ble_eq_true rfl, Nat.le_of_ble_eq_true rfl⟩) (fun r86 h86 => ?_)
          refine g_topi (y := nI (32 * i + (8 * k + w))) h86 ?_
          refine g_iald S hE.1 hG hc1 1 rfl (vp_in_nI (by omega) (by omega)) d_mo_bitOf_89 ?_
          refine g_topi (congrArg cf (nI_clamp (show (32 * i + (8 * k + w)) < 2 ^ 31 by omega))) ?_
          refine lv_iconst (v := (-1)) hx hb d_mo_bitOf_90 (by decide) ?_
          refine lv_icmp_eq (tgt := 108) hx hb d_mo_bitOf_91 (by decide) (fun c91 => ?_) (fun c91 => ?_)
          · refine lv_iinc (v := dn w) (lv' := [(5, .int (dn w)), (0, .ref mo), (1, .int (nI i)), (2, .int (nI k)), (3, .int (nI q))]) hx hb d_mo_bitOf_108 hl (k := 4) rfl (dn_pred w) (by decide) rfl (fun ls hl => ?_)
            refine lv_goto (tgt := 72) hx hb d_mo_bitOf_111 (by decide) ?_
            exact ih72 w _ ⟨⟨by omega, by rw [hv]; simp only [dnS]; rw [if_pos c91]⟩, lv_sub hl [1, 2, 3, 4, 0] rfl⟩ (by first | omega | (simp only []; omega))
          · refine lv_aload_n hx hb d_mo_bitOf_94 rfl (lv_at hl 0 rfl) ?_
            refine g_get S hE.1 hG hmo rfl in_mo 3 (by decide) tw_494 (fun _ h9 => h9) rfl d_mo_bitOf_95 ?_
            refine lv_aload_n hx hb d_mo_bitOf_98 rfl (lv_at hl 0 rfl) ?_
            refine lv_iload_n hx hb d_mo_bitOf_99 rfl (lv_at hl 1 rfl) ?_
            refine lv_iload_n hx hb d_mo_bitOf_100 rfl (lv_at hl 2 rfl) ?_
            refine lv_iload hx hb d_mo_bitOf_101 (lv_at hl 4 rfl) ?_
            refine g_reti (g_runV (As := [.int (nI i), .int (nI k), .int (nI w)]) (rest := [.ref u1]) S lk_mo_56 k_mo_place (c_mo_place l Z G mo i k w) ⟨rfl, rfl⟩ ⟨Nat.le_of_ble_eq_true rfl, Nat.le_of_ble_eq_true rfl⟩ (gPreV hG hE hmo rfl) rfl hl.1 rfl (Nat.le_of_ble_eq_true rfl) d_mo_bitOf_103 ⟨Nat.le_of_ble_eq_true rfl, Nat.le_of_ble_eq_true rfl⟩) (fun r103 h103 => ?_)
            refine g_topi (y := nI (32 * i + (8 * k + w))) h103 ?_
            refine g_iald S hE.1 hG hc1 1 rfl (vp_in_nI (by omega) (by omega)) d_mo_bitOf_106 ?_
            refine g_topi (congrArg cf (nI_clamp (show (32 * i + (8 * k + w)) < 2 ^ 31 by omega))) ?_
            exact W.iret hx hb hr (fun t9 ht9 hW9 => ⟨_, rfl, (bits_nr hS c7 hC hE8 hk hq hfl c48 (nc_dn (by rw [← e35]; exact c40) (by rw [hv]; simp only [dnS]; rw [if_neg c91]) c91) (cf_01 hS (by omega) c91)), ht9⟩) (fun _ h => nomatch h) d_mo_bitOf_107
      · refine lv_iload hx hb d_mo_bitOf_51 (lv_at hl 0 rfl) ?_
        refine lv_iconst (v := (-1)) hx hb d_mo_bitOf_53 (by decide) ?_
        refine lv_icmp_eq (tgt := 62) hx hb d_mo_bitOf_54 (by decide) (fun c54 => ?_) (fun c54 => ?_)
        · refine lv_aload_n hx hb d_mo_bitOf_62 rfl (lv_at hl 1 rfl) ?_
          refine g_get S hE.1 hG hmo rfl in_mo 11 (by decide) tw_502 (fun _ h9 => h9) rfl d_mo_bitOf_63 ?_
          exact W.iret hx hb hr (fun t9 ht9 hW9 => ⟨_, rfl, (by first | (rw [e35]; exact bits_own hS c7 hC hE8 hk hq (by rw [← e35]; exact c54)) | exact bits_fl hS c7 hC hE8 hk hq hfl c48 (by rw [← e35]; exact c54) | exact absurd c54 c40), ht9⟩) (fun _ h => nomatch h) d_mo_bitOf_66
        · refine lv_iload hx hb d_mo_bitOf_57 (lv_at hl 0 rfl) ?_
          refine lv_goto (tgt := 66) hx hb d_mo_bitOf_59 (by decide) ?_
          exact W.iret hx hb hr (fun t9 ht9 hW9 => ⟨_, rfl, (by first | (rw [e35]; exact bits_own hS c7 hC hE8 hk hq (by rw [← e35]; exact c54)) | exact bits_fl hS c7 hC hE8 hk hq hfl c48 (by rw [← e35]; exact c54) | exact absurd c54 c40), ht9⟩) (fun _ h => nomatch h) d_mo_bitOf_66
  · refine lv_aload_n hx hb d_mo_bitOf_10 rfl (lv_at hl 0 rfl) ?_
    refine lv_aload_n hx hb d_mo_bitOf_11 rfl (lv_at hl 0 rfl) ?_
    refine g_get S hE.1 hG hmo rfl in_mo 7 (by decide) tw_498 (fun _ h9 => h9) rfl d_mo_bitOf_12 ?_
    refine lv_iload_n hx hb d_mo_bitOf_15 rfl (lv_at hl 1 rfl) ?_
    refine g_iald S hE.1 hG hc5 1 rfl (vp_in_nI (by omega) (by omega)) d_mo_bitOf_16 ?_
    refine g_topi (congrArg sf (nI_clamp (show i < 2 ^ 31 by omega))) ?_
    refine lv_iload_n hx hb d_mo_bitOf_17 rfl (lv_at hl 2 rfl) ?_
    refine lv_iload_n hx hb d_mo_bitOf_18 rfl (lv_at hl 3 rfl) ?_
    refine g_reti (g_runV (As := [.int (sf i), .int (nI k), .int (nI q)]) (rest := []) S lk_mo_80 k_mo_brought (c_mo_brought l Z G mo hP0 hT hC hE8 (sf i) k q hk hq) ⟨rfl, rfl⟩ ⟨Nat.le_of_ble_eq_true rfl, Nat.le_of_ble_eq_true rfl⟩ (gPreV hG hE hmo rfl) rfl hl.1 rfl (Nat.le_of_ble_eq_true rfl) d_mo_bitOf_19 ⟨Nat.le_of_ble_eq_true rfl, Nat.le_of_ble_eq_true rfl⟩) (fun r19 h19 => ?_)
    exact W.iret hx hb hr (fun t9 ht9 hW9 => ⟨_, rfl, (by rw [h19, bits_seed hS c7]), ht9⟩) (fun _ h => nomatch h) d_mo_bitOf_22

set_option maxHeartbeats 600000 in
set_option maxRecDepth 100000 in
theorem c_mo_noSeeds (l : Launch) (Z : gZ) (G : gh) (sz : Nat) (mo : Nat) {u1 u2 u3 u4 u5 u6 u7 : Nat} {th : Int32} {C E M D : Nat} {fl : Int32} {cf mf ff gf sf tf bf : Nat → Int32} (hP : moP Z G mo u1 u2 u3 u4 u5 u6 u7 th C E M D fl cf mf ff gf sf tf bf) (hM24 : M ≤ 24) : Met l y_mo_noSeeds (wd_mo_noSeeds :: Gall) ({ frames := 0, cells := 0, slots := 0, locals := 0 }) (va_Pc [.ref mo] (gPw Z G sz)) (va_Qv (fun (G9 : gh) => ∃ s, (∀ p, p < M → s p = -1) ∧ gKe (moI mo u1 u2 u3 u4 u5 u6 u7) G G9 ∧ moP Z G9 mo u1 u2 u3 u4 u5 u6 u7 th C E M D fl cf mf ff gf s tf bf) (gW Z G sz) (gA G sz)) 0 0 (gA G sz) := by
  refine Met.ofW (cc := b_mo_noSeeds) (maxL := 2) (ret := none) (by decide) rfl ?_
  intro p e s m args below meth c s₁ B hml hv
  obtain ⟨rfl, hsz, hG, hE⟩ := hv
  subst hsz
  have hx := B.exec
  have hb := B.bytes
  have hr := B.returns
  have hlocks := B.notSynchronized
  have S : CallFix p m c b_mo_noSeeds 2 s _ Gall "PackSeedsModel" := ⟨hx, hb, hml, findClass_of_methodNamed B.named, fun w hw => atoms_spec (ws := wd_mo_noSeeds :: Gall) B.pre w (List.mem_cons_of_mem _ hw)⟩
  have hG : gS (gA G s.heap.size) s.heap Z.1 cls G s.heap [] := gS.start hG
  have hl := lv_entry ([.ref mo]) (n := 2) (Nat.le_of_ble_eq_true rfl)
  rw [lg_entry_eq]
  generalize (lg_sl ([.ref mo]) ++ List.replicate (2 - (lg_sl ([.ref mo])).length) Slot.unset).toArray = ls at hl ⊢
  have hl : lv_has ls 2 [(0, .ref mo)] := hl
  have hK : gKe (moI mo u1 u2 u3 u4 u5 u6 u7) G G := gKe.rf
  have hP0 := hP
  obtain ⟨hmo, hc1, hc2, hc3, hc4, hc5, hc6, hc7, n12, n45, n67⟩ := hP
  refine lv_iconst (v := nI 0) hx hb d_mo_noSeeds_0 (by decide) ?_
  refine lv_istore_n (lv' := [(1, .int (nI 0)), (0, .ref mo)]) hx hb d_mo_noSeeds_1 rfl hl (by decide) rfl (fun ls hl => ?_)
  refine g_indH (V := Nat × (Nat → Int32) × gh) (fun (i, s9, Gx) H locs ls => ((i ≤ M ∧ ∀ p, p < i → s9 p = -1) ∧ gKe (moI mo u1 u2 u3 u4 u5 u6 u7) G Gx ∧ moP Z Gx mo u1 u2 u3 u4 u5 u6 u7 th C E M D fl cf mf ff gf s9 tf bf) ∧ gS (gA G s.heap.size) s.heap Z.1 cls Gx H locs ∧ lv_has ls 2 [(0, .ref mo), (1, .int (nI i))]) (fun (i, s9, Gx) => M - i) ?_ (0, sf, G) _ ⟨⟨⟨Nat.zero_le _, fun p h9 => by omega⟩, hK, ⟨hmo, hc1, hc2, hc3, hc4, hc5, hc6, hc7, n12, n45, n67⟩⟩, hG, lv_sub hl [1, 0] rfl⟩
  intro v H locs ls hI ih2
  obtain ⟨i, s9, Gx⟩ := v
  obtain ⟨⟨⟨hi, hs9⟩, hK, hP2⟩, hG, hl⟩ := hI
  have hQ2 := hP2
  obtain ⟨hmo2, hc12, hc22, hc32, hc42, hc52, hc62, hc72, -⟩ := hP2
  refine lv_iload_n hx hb d_mo_noSeeds_2 rfl (lv_at hl 1 rfl) ?_
  refine lv_aload_n hx hb d_mo_noSeeds_3 rfl (lv_at hl 0 rfl) ?_
  refine g_get S hE.1 hG.1 hmo2 rfl in_mo 8 (by decide) tw_499 (fun _ h9 => h9) rfl d_mo_noSeeds_4 ?_
  refine g_ge (tgt := 23) hx hb d_mo_noSeeds_7 (by decide) (by omega) (by omega) (fun c7 => ?_) (fun c7 => ?_)
  · refine W.widen (k := 0) (n := 0) (Nat.le_of_ble_eq_true rfl) (Nat.le_of_ble_eq_true rfl) ?_
    exact (W.vret hx hb hr (fun t9 ht9 hW9 => ⟨⟨_, rfl, ⟨s9, fun p h9 => hs9 p (by omega), hK, hQ2⟩, by rw [ht9]; exact hG.1, hG.2.1⟩, hG.2.2.1.F ht9⟩) hG.2.2.1.2.2 d_mo_noSeeds_23)
  · refine lv_aload_n hx hb d_mo_noSeeds_10 rfl (lv_at hl 0 rfl) ?_
    refine g_get S hE.1 hG.1 hmo2 rfl in_mo 7 (by decide) tw_498 (fun _ h9 => h9) rfl d_mo_noSeeds_11 ?_
    refine lv_iload_n hx hb d_mo_noSeeds_14 rfl (lv_at hl 1 rfl) ?_
    refine lv_iconst (v := (-1)) hx hb d_mo_noSeeds_15 (by decide) ?_
    refine g_iast S hE.1 hG hc52 1 rfl (vp_in_nI (by omega) (by omega)) d_mo_noSeeds_16 (fun H locs hG => ?_)
    rw [nI_clamp (show i < 2 ^ 31 by omega)] at hG
    have hG : gS (gA G s.heap.size) s.heap Z.1 cls (gup Gx u5 (.inl (Z.2 1, 24, .inl (upd s9 i (-1))))) H locs := hG
    generalize eG16 : gup Gx u5 (.inl (Z.2 1, 24, .inl (upd s9 i (-1)))) = G16 at hG
    have f16_mo : G16 mo = some (.inr (4, [.int th, .int (nI C), .int (nI E), .ref u1, .ref u2, .ref u3, .ref u4, .ref u5, .int (nI M), .int (nI D), .ref u6, .int fl, .ref u7])) := by rw [← eG16]; exact gup_keep hc52 hmo2 (by simp)
    have f16_u1 : G16 u1 = some (.inl (Z.2 1, 768, .inl cf)) := by rw [← eG16]; exact gup_keep hc52 hc12 (by simp)
    have f16_u2 : G16 u2 = some (.inl (Z.2 2, 768, .inl mf)) := by rw [← eG16]; exact gup_keep hc52 hc22 (by simp)
    have f16_u3 : G16 u3 = some (.inl (Z.2 2, 744, .inl ff)) := by rw [← eG16]; exact gup_keep hc52 hc32 (by simp)
    have f16_u4 : G16 u4 = some (.inl (Z.2 2, 24, .inl gf)) := by rw [← eG16]; exact (gup_ne _ _ n45).trans hc42
    have f16_u6 : G16 u6 = some (.inl (Z.2 2, 16, .inl tf)) := by rw [← eG16]; exact gup_keep hc52 hc62 (by simp)
    have f16_u7 : G16 u7 = some (.inl (Z.2 1, 16, .inl bf)) := by rw [← eG16]; exact gup_keep hc52 hc72 (by simp)
    have f16 : G16 u5 = some (.inl (Z.2 1, 24, .inl (upd s9 i (-1)))) := by rw [← eG16]; exact gup_self _ _ _
    have hK : gKe (moI mo u1 u2 u3 u4 u5 u6 u7) G G16 := by rw [← eG16]; exact hK.up (by simp [moI])
    refine lv_iinc (v := nI (i + 1)) (lv' := [(1, .int (nI (i + 1))), (0, .ref mo)]) hx hb d_mo_noSeeds_17 hl (k := 1) rfl (show nI i + 1 = _ from nI_1 i) (by decide) rfl (fun ls hl => ?_)
    refine lv_goto (tgt := 2) hx hb d_mo_noSeeds_20 (by decide) ?_
    exact ih2 ((i + 1), upd s9 i (-1), G16) _ _ _ ⟨⟨⟨by omega, fun p h9 => by
        by_cases e9 : p = i
        · subst e9; exact pk_us
        · rw [pk_un e9]; exact hs9 p (by omega)⟩, hK, ⟨f16_mo, f16_u1, f16_u2, f16_u3, f16_u4, f16, f16_u6, f16_u7, n12, n45, n67⟩⟩, hG, lv_sub hl [1, 0] rfl⟩ (by first | omega | (simp only []; omega))
