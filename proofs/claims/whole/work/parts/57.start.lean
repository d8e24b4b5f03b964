/-! The law's loop and its entry. -/
def cel (L : Nat) (xs : Nat → Int32) (k : Nat) : Int32 := if k < L then xs k else 0
set_option maxHeartbeats 600000 in
theorem c_la_cell (l : Launch) (b L : Nat) (xs : Nat → Int32) (hL : L ≤ 2562) (k : Nat) (hk : k < 2) : Met l y_la_cell (wd_la_cell :: Gall) ({ frames := 0, cells := 0, slots := 0, locals := 0 }) (va_Pc [.ref b, .int (nI k)] (fun U => va_X b L xs U U.heap)) (vp_Si (fun r : Int32 => r = cel L xs k)) 0 0 (fun _ => False) := by
  refine Met.ofW (cc := b_la_cell) (maxL := 2) (ret := (some .int)) (by decide) rfl ?_
  intro p e s m args below meth c s₁ B hml hv
  obtain ⟨rfl, hXs⟩ := hv
  have hx := B.exec
  have hb := B.bytes
  have hr := B.returns
  have hbl : b < s.heap.size := by obtain ⟨scr, h1, -⟩ := hXs; exact (Array.getElem?_eq_some_iff.mp h1).1
  have hbA : ¬ (fun _ : Nat => False) b := fun h => h
  have hS : va_S (fun _ : Nat => False) s.heap s.heap [] := va_S.rf
  have hl := lv_entry ([.ref b, .int (nI k)]) (n := 2) (Nat.le_of_ble_eq_true rfl)
  rw [lg_entry_eq]
  generalize (lg_sl ([.ref b, .int (nI k)]) ++ List.replicate (2 - (lg_sl ([.ref b, .int (nI k)])).length) Slot.unset).toArray = ls at hl ⊢
  have hl : lv_has ls 2 [(0, .ref b), (1, .int (nI k))] := hl
  refine lv_iload_n hx hb d_la_cell_0 rfl (lv_at hl 1 rfl) ?_
  refine lv_aload_n hx hb d_la_cell_1 rfl (lv_at hl 0 rfl) ?_
  refine va_slen hx hb hXs hbl hbA hS d_la_cell_2 ?_
  refine g_topi (y := nI L) rfl ?_
  refine g_ge (tgt := 12) hx hb d_la_cell_3 (by decide) (by omega) (by omega) (fun c3 => ?_) (fun c3 => ?_)
  · refine lv_iconst (v := 0) hx hb d_la_cell_12 (by decide) ?_
    exact W.iret hx hb hr (fun t9 ht9 hW9 => ⟨_, rfl, by rw [cel, if_neg (by omega)], ht9⟩) (fun _ h => nomatch h) d_la_cell_13
  · refine lv_aload_n hx hb d_la_cell_6 rfl (lv_at hl 0 rfl) ?_
    refine lv_iload_n hx hb d_la_cell_7 rfl (lv_at hl 1 rfl) ?_
    refine va_sld hx hb hXs hbl hbA hS (vp_in_nI (by omega) (by omega)) d_la_cell_8 ?_
    refine g_topi (congrArg xs (nI_clamp (show k < 2 ^ 31 by omega))) ?_
    refine lv_goto (tgt := 13) hx hb d_la_cell_9 (by decide) ?_
    exact W.iret hx hb hr (fun t9 ht9 hW9 => ⟨_, rfl, by rw [cel, if_pos c3], ht9⟩) (fun _ h => nomatch h) d_la_cell_13
theorem lw_cpre {A : Nat → Prop} {s : State} {H : Heap} {locs : List Loc} {b L : Nat} {xs : Nat → Int32} {As : List Value} (hXs : va_X b L xs s s.heap) (hbl : b < s.heap.size) (hbA : ¬ A b) (hS : va_S A s.heap H locs) : PreS s H (va_Pc As (fun U => va_X b L xs U U.heap)) As :=
  ⟨fun a U g mk q => ⟨q.1, va_X.moved (u := U) (U := U.calling g mk a) (Vm.Alike.refl U.vm) q.2⟩, fun U hU hW => ⟨rfl, by show va_X b L xs U U.heap; rw [hU]; exact va_X.moved hW.alike (hXs.kept (hS.2.1 b hbl hbA))⟩⟩
theorem kX_ke {G G1 : gh} {a : Nat} {fs : List Value} (hk : gKe (fun q => q = a) G G1) (ha : G a = some (.inr (4, fs))) : kX (fun e => ¬ mE e) G G1 := fun q e hq he => hk.get (fun z => by subst z; rw [ha] at hq; cases hq; exact he (Or.inl ⟨_, rfl⟩)) hq
theorem sub5 {L i : Nat} (hL : L ≤ 2562) (hi : i < 2 ^ 31) (h : ¬ nI L - nI 5 < nI i) : i + 5 ≤ L := by
  rw [Int32.lt_iff_toInt_lt, Int32.toInt_sub, nI_toInt (by omega), nI_toInt (by omega), nI_toInt hi] at h
  rw [Int.bmod_eq_of_le_mul_two (by omega) (by omega)] at h
  omega
theorem nI_5 (j : Nat) : nI (2 + 5 * j) + 5 = nI (2 + 5 * (j + 1)) := by
  rw [show 2 + 5 * (j + 1) = (2 + 5 * j) + 5 by omega]
  exact nI_add (2 + 5 * j) 5
theorem lw_fr {sz q : Nat} (h : gA (fun _ => none) sz q) : sz ≤ q := by
  rcases h with h | h
  · exact absurd rfl h
  · exact h
set_option maxHeartbeats 600000 in
set_option maxRecDepth 100000 in
theorem law_loop {p : Program} {l : Launch} {e : Env} {s : State} {m : MethodId} {below : List Frame} {meth : Method} {c : Code} {Z : gZ} {b L x mo o C E : Nat} {xs : Nat → Int32} (F : lwF p l s m c Z b L xs) (hr : meth.sig.returnType = ret) (hlocks : meth.locks = false) : ∀ (n j : Nat), n + j = 513 → j ≤ 512 → ∀ (G : gh) (H : Heap) (locs : List Loc) (ls : Array Slot) (th : Int32), lwI Z G x mo o C E th → gS (gA (fun _ => none) s.heap.size) s.heap Z.1 cls G H locs → lv_has ls 8 [(4, .int (nI (2 + 5 * j))), (3, .ref o), (2, .ref mo), (1, .ref x), (0, .ref b)] → W p l e room_1 s m #[Value.ref b] below meth c H locs (14 + 8 * j) (2457 + 50 * j) (lw_Z below #[Value.ref b] s) (F0 m 43 ls []) := by
  intro n
  induction n with
  | zero => intro j h1 h2; exact absurd h1 (by omega)
  | succ n ih =>
    intro j hj hj2 G H locs ls th hI hG hl
    obtain ⟨S, hl9, hE, hX, hN, hXs, hbl, hL⟩ := id F
    have hx := S.1
    have hb := S.2.1
    have hbA := lw_nA hbl
    refine lv_iload hx hb d_la_law_43 (lv_at hl 0 rfl) ?_
    refine lv_aload_n hx hb d_la_law_45 rfl (lv_at hl 4 rfl) ?_
    refine va_slen hx hb hXs hbl hbA hG.2.2.1 d_la_law_46 ?_
    refine g_topi (y := nI L) rfl ?_
    refine lv_iconst (v := nI 5) hx hb d_la_law_47 (by decide) ?_
    refine lv_isub hx hb d_la_law_48 ?_
    refine lv_icmp_gt (tgt := 1177) hx hb d_la_law_49 (by decide) (fun c49 => ?_) (fun c49 => ?_)
    · refine lv_iconst (v := 1) hx hb d_la_law_1177 (by decide) ?_
      refine va_forget (fun q hq => lw_fr (hG.2.2.1.2.2 q hq)) ?_
      refine W.widen (k := 601024) (n := 7293000) (by omega) (by omega) ?_
      exact lw_ret hx hb hr hlocks d_la_law_1178
    · have hi : 2 + 5 * j + 5 ≤ L := sub5 hL (by omega) c49
      have hKc : 14 + 8 * j + 8 ≤ room_1.cells := Nat.le_trans (show 14 + 8 * j + 8 ≤ 601024 by omega) (Nat.le_of_ble_eq_true rfl)
      have hKs : 2457 + 50 * j + 50 ≤ room_1.slots := Nat.le_trans (show 2457 + 50 * j + 50 ≤ 7293000 by omega) (Nat.le_of_ble_eq_true rfl)
      have kk : ∀ (G : gh) (H : Heap) (locs : List Loc) (ls : Array Slot) (th : Int32), lwI Z G x mo o C E th → gS (gA (fun _ => none) s.heap.size) s.heap Z.1 cls G H locs → lv_has ls 8 [(4, .int (nI (2 + 5 * j))), (3, .ref o), (2, .ref mo), (1, .ref x), (0, .ref b)] → W p l e room_1 s m #[Value.ref b] below meth c H locs (14 + 8 * j + 8) (2457 + 50 * j + 50) (lw_Z below #[Value.ref b] s) (F0 m 1171 ls []) := by
        intro G H locs ls th hI hG hl
        refine lv_iinc (v := nI (2 + 5 * (j + 1))) (lv' := [(4, .int (nI (2 + 5 * (j + 1)))), (3, .ref o), (2, .ref mo), (1, .ref x), (0, .ref b)]) hx hb d_la_law_1171 hl (k := 0) rfl (show nI (2 + 5 * j) + 5 = _ from nI_5 j) (by decide) rfl (fun ls hl => ?_)
        refine lv_goto (tgt := 43) hx hb d_la_law_1174 (by decide) ?_
        refine W.widen (k := 14 + 8 * (j + 1)) (n := 2457 + 50 * (j + 1)) (by omega) (by omega) ?_
        exact ih (j + 1) (by omega) (by omega) G H locs ls th hI hG hl
      refine lv_aload_n hx hb d_la_law_52 rfl (lv_at hl 4 rfl) ?_
      refine lv_iload hx hb d_la_law_53 (lv_at hl 0 rfl) ?_
      refine va_sld hx hb hXs hbl hbA hG.2.2.1 (vp_in_nI (by omega) (by omega)) d_la_law_55 ?_
      refine g_topi (congrArg xs (nI_clamp (show (2 + 5 * j) < 2 ^ 31 by omega))) ?_
      refine lv_bipush (v := 31) hx hb d_la_law_56 (by decide) ?_
      refine lv_iand hx hb d_la_law_58 ?_
      rcases pk_ix ((xs (2 + 5 * j)) &&& 31) (n := 18) (by omega) with w59 | w59 | ⟨j59, hj59, w59⟩
      · refine lv_tableOut (tgt := 1171) hx hb d_la_law_59 (Or.inl (by rw [Int32.lt_iff_toInt_lt] at w59; exact w59)) (by decide) ?_
        exact W.widen (by omega) (by omega) (kk _ _ _ _ _ hI hG (lv_sub hl [0, 1, 2, 3, 4] rfl))
      · refine lv_tableOut (tgt := 1171) hx hb d_la_law_59 (Or.inr (by rw [Int32.le_iff_toInt_le, nI_toInt (by omega)] at w59; omega)) (by decide) ?_
        exact W.widen (by omega) (by omega) (kk _ _ _ _ _ hI hG (lv_sub hl [0, 1, 2, 3, 4] rfl))
      · rcases (show j59 = 0 ∨ j59 = 1 ∨ j59 = 2 ∨ j59 = 3 ∨ j59 = 4 ∨ j59 = 5 ∨ j59 = 6 ∨ j59 = 7 ∨ j59 = 8 ∨ j59 = 9 ∨ j59 = 10 ∨ j59 = 11 ∨ j59 = 12 ∨ j59 = 13 ∨ j59 = 14 ∨ j59 = 15 ∨ j59 = 16 ∨ j59 = 17 by omega) with rfl | rfl | rfl | rfl | rfl | rfl | rfl | rfl | rfl | rfl | rfl | rfl | rfl | rfl | rfl | rfl | rfl | rfl
        · refine g_topi w59 ?_
          refine lv_tableIn (off := 85) (tgt := 144) hx hb d_la_law_59 (by decide) (by decide) (by decide) (by decide) ?_
          exact st_0 F hI hG (lv_sub hl [0, 1, 2, 3, 4] rfl) hi hKc hKs kk
        · refine g_topi w59 ?_
          refine lv_tableIn (off := 129) (tgt := 188) hx hb d_la_law_59 (by decide) (by decide) (by decide) (by decide) ?_
          exact st_1 F hI hG (lv_sub hl [0, 1, 2, 3, 4] rfl) hi hKc hKs kk
        · refine g_topi w59 ?_
          refine lv_tableIn (off := 228) (tgt := 287) hx hb d_la_law_59 (by decide) (by decide) (by decide) (by decide) ?_
          exact st_2 F hI hG (lv_sub hl [0, 1, 2, 3, 4] rfl) hi hKc hKs kk
        · refine g_topi w59 ?_
          refine lv_tableIn (off := 241) (tgt := 300) hx hb d_la_law_59 (by decide) (by decide) (by decide) (by decide) ?_
          exact st_3 F hI hG (lv_sub hl [0, 1, 2, 3, 4] rfl) hi hKc hKs kk
        · refine g_topi w59 ?_
          refine lv_tableIn (off := 277) (tgt := 336) hx hb d_la_law_59 (by decide) (by decide) (by decide) (by decide) ?_
          exact st_4 F hI hG (lv_sub hl [0, 1, 2, 3, 4] rfl) hi hKc hKs kk
        · refine g_topi w59 ?_
          refine lv_tableIn (off := 368) (tgt := 427) hx hb d_la_law_59 (by decide) (by decide) (by decide) (by decide) ?_
          exact st_5 F hI hG (lv_sub hl [0, 1, 2, 3, 4] rfl) hi hKc hKs kk
        · refine g_topi w59 ?_
          refine lv_tableIn (off := 424) (tgt := 483) hx hb d_la_law_59 (by decide) (by decide) (by decide) (by decide) ?_
          exact st_6 F hI hG (lv_sub hl [0, 1, 2, 3, 4] rfl) hi hKc hKs kk
        · refine g_topi w59 ?_
          refine lv_tableIn (off := 480) (tgt := 539) hx hb d_la_law_59 (by decide) (by decide) (by decide) (by decide) ?_
          exact st_7 F hI hG (lv_sub hl [0, 1, 2, 3, 4] rfl) hi hKc hKs kk
        · refine g_topi w59 ?_
          refine lv_tableIn (off := 560) (tgt := 619) hx hb d_la_law_59 (by decide) (by decide) (by decide) (by decide) ?_
          exact st_8 F hI hG (lv_sub hl [0, 1, 2, 3, 4] rfl) hi hKc hKs kk
        · refine g_topi w59 ?_
          refine lv_tableIn (off := 635) (tgt := 694) hx hb d_la_law_59 (by decide) (by decide) (by decide) (by decide) ?_
          exact st_9 F hI hG (lv_sub hl [0, 1, 2, 3, 4] rfl) hi hKc hKs kk
        · refine g_topi w59 ?_
          refine lv_tableIn (off := 648) (tgt := 707) hx hb d_la_law_59 (by decide) (by decide) (by decide) (by decide) ?_
          exact st_10 F hI hG (lv_sub hl [0, 1, 2, 3, 4] rfl) hi hKc hKs kk
        · refine g_topi w59 ?_
          refine lv_tableIn (off := 704) (tgt := 763) hx hb d_la_law_59 (by decide) (by decide) (by decide) (by decide) ?_
          exact st_11 F hI hG (lv_sub hl [0, 1, 2, 3, 4] rfl) hi hKc hKs kk
        · refine g_topi w59 ?_
          refine lv_tableIn (off := 791) (tgt := 850) hx hb d_la_law_59 (by decide) (by decide) (by decide) (by decide) ?_
          exact st_12 F hI hG (lv_sub hl [0, 1, 2, 3, 4] rfl) hi hKc hKs kk
        · refine g_topi w59 ?_
          refine lv_tableIn (off := 858) (tgt := 917) hx hb d_la_law_59 (by decide) (by decide) (by decide) (by decide) ?_
          exact st_13 F hI hG (lv_sub hl [0, 1, 2, 3, 4] rfl) hi hKc hKs kk
        · refine g_topi w59 ?_
          refine lv_tableIn (off := 871) (tgt := 930) hx hb d_la_law_59 (by decide) (by decide) (by decide) (by decide) ?_
          exact st_14 F hI hG (lv_sub hl [0, 1, 2, 3, 4] rfl) hi hKc hKs kk
        · refine g_topi w59 ?_
          refine lv_tableIn (off := 938) (tgt := 997) hx hb d_la_law_59 (by decide) (by decide) (by decide) (by decide) ?_
          exact st_15 F hI hG (lv_sub hl [0, 1, 2, 3, 4] rfl) hi hKc hKs kk
        · refine g_topi w59 ?_
          refine lv_tableIn (off := 1001) (tgt := 1060) hx hb d_la_law_59 (by decide) (by decide) (by decide) (by decide) ?_
          exact st_16 F hI hG (lv_sub hl [0, 1, 2, 3, 4] rfl) hi hKc hKs kk
        · refine g_topi w59 ?_
          refine lv_tableIn (off := 1056) (tgt := 1115) hx hb d_la_law_59 (by decide) (by decide) (by decide) (by decide) ?_
          exact st_17 F hI hG (lv_sub hl [0, 1, 2, 3, 4] rfl) hi hKc hKs kk
set_option maxHeartbeats 600000 in
set_option maxRecDepth 100000 in
/-- THE LAW, from its entry -/
theorem whole_start {p : Program} {e : Env} {s : State} {m : MethodId} {below : List Frame} {meth : Method} {c : Code} (l : Launch) (hl9 : l.stackTraces = false) {b L : Nat} {xs : Nat → Int32} (hL : L ≤ 2562) (C0 : lw_At p s m meth c b L xs) : W p l e room_1 s m #[Value.ref b] below meth c s.heap [] 0 0 (lw_Z below #[Value.ref b] s) (entryFrame m ([Value.ref b] : List Value).toArray 8) := by
  obtain ⟨hx, hb, hr, hml, hown, hts, hXs, hbl, hlocks, hgv⟩ := id C0
  obtain ⟨Z, hE, hX, hN, hAO⟩ := lw_given hts hgv
  have S : CallFix p m c code 8 s #[Value.ref b] Gall "PackSeedsLaw" := ⟨hx, hb, hml, hown, fun w hw => hts w (Gall_in w hw)⟩
  have F : lwF p l s m c Z b L xs := ⟨S, hl9, hE, hX, hN, hXs, hbl, hL⟩
  have hbA := lw_nA hbl
  have hG : gS (gA (fun _ => none) s.heap.size) s.heap Z.1 cls (fun _ => none) s.heap [] := gS.start (fun a e h => nomatch h)
  have hl := lv_entry ([.ref b]) (n := 8) (Nat.le_of_ble_eq_true rfl)
  rw [lg_entry_eq]
  generalize (lg_sl ([.ref b]) ++ List.replicate (8 - (lg_sl ([.ref b])).length) Slot.unset).toArray = ls at hl ⊢
  have hl : lv_has ls 8 [(0, .ref b)] := hl
  refine g_new S hE.1 hG (ci := 0) (fs := [.null, .null, .null, .int 0, .int 0]) rfl in_ps ty_ps tyok_ps tw_14 tw_15 tw_1 (fun j hj => by rcases (show j = 0 ∨ j = 1 ∨ j = 2 ∨ j = 3 ∨ j = 4 by omega) with rfl | rfl | rfl | rfl | rfl <;> rfl) (Nat.le_of_ble_eq_true rfl) (Nat.le_of_ble_eq_true rfl) d_la_law_0 (fun q0 H hq0 hn0 hG => ?_)
  have hG : gS (gA (fun _ => none) s.heap.size) s.heap Z.1 cls (gup (fun _ => none) q0 (.inr (0, [.null, .null, .null, .int 0, .int 0]))) H _ := hG
  generalize eG0 : gup (fun _ => none) q0 (.inr (0, [.null, .null, .null, .int 0, .int 0])) = G0 at hG
  have f0 : G0 q0 = some (.inr (0, [.null, .null, .null, .int 0, .int 0])) := by rw [← eG0]; exact gup_self _ _ _
  refine lv_dup hx hb d_la_law_3 rfl ?_
  refine lv_aload_n hx hb d_la_law_4 rfl (lv_at hl 0 rfl) ?_
  refine lv_iconst (v := nI 0) hx hb d_la_law_5 (by decide) ?_
  refine g_reti (g_runS (As := [.ref b, .int (nI 0)]) (rest := [.ref q0, .ref q0]) S lk_la_71 k_la_cell (c_la_cell l b L xs hL 0 (by omega)) ⟨rfl, rfl⟩ ⟨(Nat.le_of_ble_eq_true rfl), (Nat.le_of_ble_eq_true rfl)⟩ (lw_cpre hXs hbl hbA hG.2.2.1) rfl hl.1 rfl (Nat.le_of_ble_eq_true rfl) d_la_law_6 ⟨(Nat.le_of_ble_eq_true rfl), (Nat.le_of_ble_eq_true rfl)⟩) (fun r6 h6 => ?_)
  refine g_topi (y := cel L xs 0) h6 ?_
  refine lv_aload_n hx hb d_la_law_9 rfl (lv_at hl 0 rfl) ?_
  refine lv_iconst (v := nI 1) hx hb d_la_law_10 (by decide) ?_
  refine g_reti (g_runS (As := [.ref b, .int (nI 1)]) (rest := [.int (cel L xs 0), .ref q0, .ref q0]) S lk_la_71 k_la_cell (c_la_cell l b L xs hL 1 (by omega)) ⟨rfl, rfl⟩ ⟨(Nat.le_of_ble_eq_true rfl), (Nat.le_of_ble_eq_true rfl)⟩ (lw_cpre hXs hbl hbA hG.2.2.1) rfl hl.1 rfl (Nat.le_of_ble_eq_true rfl) d_la_law_11 ⟨(Nat.le_of_ble_eq_true rfl), (Nat.le_of_ble_eq_true rfl)⟩) (fun r11 h11 => ?_)
  refine g_topi (y := cel L xs 1) h11 ?_
  refine g_wv hG (g_runI (As := [.int (cel L xs 0), .int (cel L xs 1)]) (rest := [.ref q0]) S lk_la_77 k_ps_init (c_ps_init l Z G0 H.size q0 f0 (cel L xs 0) (cel L xs 1)) ⟨rfl, rfl⟩ ⟨(Nat.le_of_ble_eq_true rfl), (Nat.le_of_ble_eq_true rfl)⟩ (gPoS hG.1 hE hAO) rfl hl.1 rfl (Nat.le_of_ble_eq_true rfl) d_la_law_14 ⟨(Nat.le_of_ble_eq_true rfl), (Nat.le_of_ble_eq_true rfl)⟩) (fun G14 H locs h14 hG => ?_)
  obtain ⟨hk14, sh, ma, ro, pa, -, -, -, -, hh14, hs14, hm14, hr14, hp14⟩ := h14
  obtain ⟨C, hC1, hC4, hCe⟩ := cla_n (x := cel L xs 0) 4 (by omega) (by omega)
  obtain ⟨E, hE1, hE8, hEe⟩ := cla_n (x := cel L xs 1) 8 (by omega) (by omega)
  rw [show cla 4 (cel L xs 0) = nI C from hCe, show cla 8 (cel L xs 1) = nI E from hEe] at hs14
  have hcl14 : clQ Z G14 q0 C E 0 8 0 128 (fun _ => none) (fun _ => pat0) := ⟨sh, ma, ro, pa, _, hh14, hs14, hm14, hr14, hp14, fun i a hi h => (nomatch h), fun i j a hi hj h => (nomatch h)⟩
  refine lv_astore_n (lv' := [(1, .ref q0), (0, .ref b)]) hx hb d_la_law_17 rfl hl (by decide) rfl (fun ls hl => ?_)
  refine g_new S hE.1 hG (ci := 4) (fs := [.int 0, .int 0, .int 0, .null, .null, .null, .null, .null, .int 0, .int 0, .null, .int 0, .null]) rfl in_mo ty_mo tyok_mo tw_485 tw_486 tw_5 (fun j hj => by rcases (show j = 0 ∨ j = 1 ∨ j = 2 ∨ j = 3 ∨ j = 4 ∨ j = 5 ∨ j = 6 ∨ j = 7 ∨ j = 8 ∨ j = 9 ∨ j = 10 ∨ j = 11 ∨ j = 12 by omega) with rfl | rfl | rfl | rfl | rfl | rfl | rfl | rfl | rfl | rfl | rfl | rfl | rfl <;> rfl) (Nat.le_of_ble_eq_true rfl) (Nat.le_of_ble_eq_true rfl) d_la_law_18 (fun q18 H hq18 hn18 hG => ?_)
  have hG : gS (gA (fun _ => none) s.heap.size) s.heap Z.1 cls (gup G14 q18 (.inr (4, [.int 0, .int 0, .int 0, .null, .null, .null, .null, .null, .int 0, .int 0, .null, .int 0, .null]))) H _ := hG
  generalize eG18 : gup G14 q18 (.inr (4, [.int 0, .int 0, .int 0, .null, .null, .null, .null, .null, .int 0, .int 0, .null, .int 0, .null])) = G18 at hG
  have f18 : G18 q18 = some (.inr (4, [.int 0, .int 0, .int 0, .null, .null, .null, .null, .null, .int 0, .int 0, .null, .int 0, .null])) := by rw [← eG18]; exact gup_self _ _ _
  have hcl18 := clQ_kc hcl14 (G1 := G18) (by rw [← eG18]; exact kX.rf.new hn18)
  refine lv_dup hx hb d_la_law_21 rfl ?_
  refine lv_aload_n hx hb d_la_law_22 rfl (lv_at hl 1 rfl) ?_
  refine lv_iconst (v := nI 0) hx hb d_la_law_23 (by decide) ?_
  refine g_reti (g_runS (As := [.ref b, .int (nI 0)]) (rest := [.ref q18, .ref q18]) S lk_la_71 k_la_cell (c_la_cell l b L xs hL 0 (by omega)) ⟨rfl, rfl⟩ ⟨(Nat.le_of_ble_eq_true rfl), (Nat.le_of_ble_eq_true rfl)⟩ (lw_cpre hXs hbl hbA hG.2.2.1) rfl hl.1 rfl (Nat.le_of_ble_eq_true rfl) d_la_law_24 ⟨(Nat.le_of_ble_eq_true rfl), (Nat.le_of_ble_eq_true rfl)⟩) (fun r24 h24 => ?_)
  refine g_topi (y := cel L xs 0) h24 ?_
  refine lv_aload_n hx hb d_la_law_27 rfl (lv_at hl 1 rfl) ?_
  refine lv_iconst (v := nI 1) hx hb d_la_law_28 (by decide) ?_
  refine g_reti (g_runS (As := [.ref b, .int (nI 1)]) (rest := [.int (cel L xs 0), .ref q18, .ref q18]) S lk_la_71 k_la_cell (c_la_cell l b L xs hL 1 (by omega)) ⟨rfl, rfl⟩ ⟨(Nat.le_of_ble_eq_true rfl), (Nat.le_of_ble_eq_true rfl)⟩ (lw_cpre hXs hbl hbA hG.2.2.1) rfl hl.1 rfl (Nat.le_of_ble_eq_true rfl) d_la_law_29 ⟨(Nat.le_of_ble_eq_true rfl), (Nat.le_of_ble_eq_true rfl)⟩) (fun r29 h29 => ?_)
  refine g_topi (y := cel L xs 1) h29 ?_
  refine g_wv hG (g_runI (As := [.int (cel L xs 0), .int (cel L xs 1)]) (rest := [.ref q18]) S lk_la_82 k_mo_init (c_mo_init l Z G18 H.size q18 f18 (cel L xs 0) (cel L xs 1) (show cla 4 (cel L xs 0) = nI C from hCe) (show cla 8 (cel L xs 1) = nI E from hEe) hC4 hE8) ⟨rfl, rfl⟩ ⟨(Nat.le_of_ble_eq_true rfl), (Nat.le_of_ble_eq_true rfl)⟩ (gPwS hG.1 hE) rfl hl.1 rfl (Nat.le_of_ble_eq_true rfl) d_la_law_32 ⟨(Nat.le_of_ble_eq_true rfl), (Nat.le_of_ble_eq_true rfl)⟩) (fun G32 H locs h32 hG => ?_)
  obtain ⟨hk32, u1, u2, u3, u4, u5, u6, u7, -, hQ32⟩ := h32
  have hcl32 := clQ_kc hcl18 (kX_ke hk32 f18)
  refine lv_astore_n (lv' := [(2, .ref q18), (1, .ref q0), (0, .ref b)]) hx hb d_la_law_35 rfl hl (by decide) rfl (fun ls hl => ?_)
  refine lv_iconst (v := nI 1) hx hb d_la_law_36 (by decide) ?_
  refine g_newa (atype := .long) (ty := .long) (N' := 1) (a0 := (1, .inr (.inl (fun _ => 0)))) S hE.1 hG tw_65 rfl 0 rfl (fun h => h) (fun cA => rfl) (by decide) (by decide) (by decide) (Nat.le_of_ble_eq_true rfl) (Nat.le_of_ble_eq_true rfl) d_la_law_37 (fun q37 H hq37 hn37 hG => ?_)
  have hG : gS (gA (fun _ => none) s.heap.size) s.heap Z.1 cls (gup G32 q37 (.inl (Z.2 0, 1, .inr (.inl (fun _ => 0))))) H _ := hG
  generalize eG37 : gup G32 q37 (.inl (Z.2 0, 1, .inr (.inl (fun _ => 0)))) = G37 at hG
  have f37 : G37 q37 = some (.inl (Z.2 0, 1, .inr (.inl (fun _ => 0)))) := by rw [← eG37]; exact gup_self _ _ _
  have hcl37 := clQ_kc hcl32 (G1 := G37) (by rw [← eG37]; exact kX.rf.new hn37)
  have hQ37 := moQ_km hQ32 (G1 := G37) (by rw [← eG37]; exact kX.rf.new hn37)
  refine lv_astore_n (lv' := [(3, .ref q37), (2, .ref q18), (1, .ref q0), (0, .ref b)]) hx hb d_la_law_39 rfl hl (by decide) rfl (fun ls hl => ?_)
  refine lv_iconst (v := nI 2) hx hb d_la_law_40 (by decide) ?_
  refine lv_istore (lv' := [(4, .int (nI 2)), (3, .ref q37), (2, .ref q18), (1, .ref q0), (0, .ref b)]) hx hb d_la_law_41 hl (by decide) rfl (fun ls hl => ?_)
  refine W.widen (k := 14 + 8 * 0) (n := 2457 + 50 * 0) (by omega) (by omega) ?_
  exact law_loop F hr hlocks 513 0 (by omega) (by omega) _ _ _ _ _ ⟨u1, u2, u3, u4, u5, u6, u7, _, _, _, _, _, _, _, hcl37, hQ37, f37⟩ hG (lv_sub hl [0, 1, 2, 3, 4] rfl)
