/-! The law's cases, its loop, its entry. -/
def lwI (Z : gZ) (G : gh) (x mo o C E : Nat) (th : Int32) : Prop := ∃ u1 u2 u3 u4 u5 u6 u7 M D fk tp pt pd ov, clQ Z G x C E M D fk tp pt pd ∧ moQ Z G mo u1 u2 u3 u4 u5 u6 u7 th C E M D fk tp pt pd ∧ G o = some (.inl (Z.2 0, 1, .inr (.inl ov)))
def lwF (p : Program) (l : Launch) (s : State) (m : MethodId) (c : Code) (Z : gZ) (b L : Nat) (xs : Nat → Int32) : Prop := CallFix p m c code 8 s #[Value.ref b] Gall "PackSeedsLaw" ∧ l.stackTraces = false ∧ gE Z s ∧ gXt (gA (fun _ => none) s.heap.size) s s.heap ∧ gNcx s ∧ va_X b L xs s s.heap ∧ b < s.heap.size ∧ L ≤ 2562
theorem zl_0 {r : Int32} (h : r = 0) : zl r = 0 := by rw [zl, if_pos h]
theorem zl_1 {r : Int32} (h : ¬ r = 0) : zl r = 1 := by rw [zl, if_neg h]
theorem pr_eq {r t : Int32} {P : Prop} (h : (r = 1 ∧ P) ∨ (r = 0 ∧ ¬ P)) (h' : (t = 1 ∧ P) ∨ (t = 0 ∧ ¬ P)) : r = t := by
  rcases h with ⟨h1, h2⟩ | ⟨h1, h2⟩ <;> rcases h' with ⟨g1, g2⟩ | ⟨g1, g2⟩
  · rw [h1, g1]
  · exact absurd h2 g2
  · exact absurd g2 h2
  · rw [h1, g1]
theorem lw_nA {b sz : Nat} (h : b < sz) : ¬ gA (fun _ => none) sz b := by
  rintro (z | z)
  · exact z rfl
  · omega
set_option maxHeartbeats 600000 in
set_option maxRecDepth 100000 in
theorem st_0 {p : Program} {l : Launch} {e : Env} {s : State} {m : MethodId} {below : List Frame} {meth : Method} {c : Code} {Q : State → Prop} {Z : gZ} {b L x mo o C E i K N : Nat} {xs : Nat → Int32} {th : Int32} (F : lwF p l s m c Z b L xs) {G : gh} {H : Heap} {locs : List Loc} {ls : Array Slot} (hI : lwI Z G x mo o C E th) (hG : gS (gA (fun _ => none) s.heap.size) s.heap Z.1 cls G H locs) (hl : lv_has ls 8 [(4, .int (nI i)), (3, .ref o), (2, .ref mo), (1, .ref x), (0, .ref b)]) (hi : i + 5 ≤ L) (hKc : K + 8 ≤ room_1.cells) (hKs : N + 50 ≤ room_1.slots) (kk : ∀ (G : gh) (H : Heap) (locs : List Loc) (ls : Array Slot) (th : Int32), lwI Z G x mo o C E th → gS (gA (fun _ => none) s.heap.size) s.heap Z.1 cls G H locs → lv_has ls 8 [(4, .int (nI i)), (3, .ref o), (2, .ref mo), (1, .ref x), (0, .ref b)] → W p l e room_1 s m #[Value.ref b] below meth c H locs (K + 8) (N + 50) Q (F0 m 1171 ls [])) : W p l e room_1 s m #[Value.ref b] below meth c H locs K N Q (F0 m 144 ls []) := by
  obtain ⟨S, hl9, hE, hX, hN, hXs, hbl, hL⟩ := F
  have hx := S.1
  have hb := S.2.1
  have hbA := lw_nA hbl
  obtain ⟨u1, u2, u3, u4, u5, u6, u7, M, D, fk, tp, pt, pd, ov, hcl, hQ, ho⟩ := hI
  have hbd := moQ_bd hQ
  refine lv_aload_n hx hb d_la_law_144 rfl (lv_at hl 3 rfl) ?_
  refine lv_aload_n hx hb d_la_law_145 rfl (lv_at hl 1 rfl) ?_
  refine g_wi hG (g_runSW (As := [.ref x, .ref o]) (rest := []) S lk_la_83 k_la_pattern (c_la_pattern l hl9 Z G H.size x o hcl ho hbd ) ⟨rfl, rfl⟩ ⟨(Nat.le_of_ble_eq_true rfl), (Nat.le_of_ble_eq_true rfl)⟩ (gPyS hG hE hX hN) rfl hl.1 rfl (Nat.le_of_ble_eq_true rfl) d_la_law_146 ⟨(by omega), (by omega)⟩) (fun k146 G1 H locs hA hG => ?_)
  have hk1 : kX mE G G1 := by obtain ⟨_, _, h, _⟩ := hA; exact h
  have hQ1 := moQ_km hQ hk1
  obtain ⟨fm1, hm1⟩ := moQ_cell hQ1
  refine lv_istore (lv' := [(5, .int k146), (4, .int (nI i)), (3, .ref o), (2, .ref mo), (1, .ref x), (0, .ref b)]) hx hb d_la_law_149 hl (by decide) rfl (fun ls hl => ?_)
  refine lv_aload_n hx hb d_la_law_151 rfl (lv_at hl 3 rfl) ?_
  refine g_wi hG (g_runV (As := []) (rest := []) S lk_la_86 k_mo_pattern (c_mo_pattern l Z G1 H.size mo hQ1 ) ⟨rfl, rfl⟩ ⟨(Nat.le_of_ble_eq_true rfl), (Nat.le_of_ble_eq_true rfl)⟩ (gPwV hG.1 hE hm1 rfl) rfl hl.1 rfl (Nat.le_of_ble_eq_true rfl) d_la_law_152 ⟨(by omega), (by omega)⟩) (fun b152 G2 H locs hB hG => ?_)
  obtain ⟨M2, D2, fk2, tp2, pt2, pd2, ov2, hcl2, hQ2, ho2, ha2⟩ := j_pattern hQ hA hB
  refine lv_istore (lv' := [(6, .int b152), (5, .int k146), (4, .int (nI i)), (3, .ref o), (2, .ref mo), (1, .ref x), (0, .ref b)]) hx hb d_la_law_155 hl (by decide) rfl (fun ls hl => ?_)
  refine lv_aload_n hx hb d_la_law_157 rfl (lv_at hl 4 rfl) ?_
  obtain ⟨cf, mf, ff, gf, sf, tf, bf, hP2, -⟩ := id hQ2
  refine g_reti (g_runV (As := []) (rest := []) S lk_la_87 k_mo_thrown (c_mo_thrown l Z G2 mo hP2) ⟨rfl, rfl⟩ ⟨(Nat.le_of_ble_eq_true rfl), (Nat.le_of_ble_eq_true rfl)⟩ (gPreV hG.1 hE hP2.1 rfl) rfl hl.1 rfl (Nat.le_of_ble_eq_true rfl) d_la_law_158 ⟨(by omega), (by omega)⟩) (fun r158 h158 => ?_)
  refine g_topi (y := k146) h158 ?_
  refine lv_iload hx hb d_la_law_161 (lv_at hl 1 rfl) ?_
  refine lv_icmp_eq (tgt := 168) hx hb d_la_law_163 (by decide) (fun c163 => ?_) (fun c163 => absurd c163 (not_not_intro rfl))
  refine lv_iload hx hb d_la_law_168 (lv_at hl 1 rfl) ?_
  refine lv_if_ne (tgt := 185) hx hb d_la_law_170 (by decide) (fun c170 => ?_) (fun c170 => ?_)
  · refine lv_goto (tgt := 1171) hx hb d_la_law_185 (by decide) ?_
    refine W.widen (k := K + 8) (n := N + 50) (by omega) (by omega) ?_
    exact kk _ _ _ _ _ ⟨u1, u2, u3, u4, u5, u6, u7, M2, D2, fk2, tp2, pt2, pd2, ov2, hcl2, hQ2, ho2⟩ hG (lv_sub hl [2, 3, 4, 5, 6] rfl)
  · refine lv_aload_n hx hb d_la_law_173 rfl (lv_at hl 3 rfl) ?_
    refine lv_iconst (v := nI 0) hx hb d_la_law_174 (by decide) ?_
    refine g_lald S hE.1 hG.1 ho2 0 rfl (vp_in_nI (by omega) (by omega)) d_la_law_175 ?_
    refine g_topl (congrArg ov2 (nI_clamp (show 0 < 2 ^ 31 by omega))) ?_
    refine lv_iload hx hb d_la_law_176 (lv_at hl 0 rfl) ?_
    refine lv_i2l hx hb d_la_law_178 rfl ?_
    refine W.lcmp hx hb d_la_law_179 ?_
    refine lv_if_eq (tgt := 185) hx hb d_la_law_180 (by decide) (fun c180 => ?_) (fun c180 => absurd c180 (not_not_intro ((lg_cmp_eq _ _).mpr (ha2 c170))))
    refine lv_goto (tgt := 1171) hx hb d_la_law_185 (by decide) ?_
    refine W.widen (k := K + 8) (n := N + 50) (by omega) (by omega) ?_
    exact kk _ _ _ _ _ ⟨u1, u2, u3, u4, u5, u6, u7, M2, D2, fk2, tp2, pt2, pd2, ov2, hcl2, hQ2, ho2⟩ hG (lv_sub hl [2, 3, 4, 5, 6] rfl)
set_option maxHeartbeats 600000 in
set_option maxRecDepth 100000 in
theorem st_1 {p : Program} {l : Launch} {e : Env} {s : State} {m : MethodId} {below : List Frame} {meth : Method} {c : Code} {Q : State → Prop} {Z : gZ} {b L x mo o C E i K N : Nat} {xs : Nat → Int32} {th : Int32} (F : lwF p l s m c Z b L xs) {G : gh} {H : Heap} {locs : List Loc} {ls : Array Slot} (hI : lwI Z G x mo o C E th) (hG : gS (gA (fun _ => none) s.heap.size) s.heap Z.1 cls G H locs) (hl : lv_has ls 8 [(4, .int (nI i)), (3, .ref o), (2, .ref mo), (1, .ref x), (0, .ref b)]) (hi : i + 5 ≤ L) (hKc : K + 8 ≤ room_1.cells) (hKs : N + 50 ≤ room_1.slots) (kk : ∀ (G : gh) (H : Heap) (locs : List Loc) (ls : Array Slot) (th : Int32), lwI Z G x mo o C E th → gS (gA (fun _ => none) s.heap.size) s.heap Z.1 cls G H locs → lv_has ls 8 [(4, .int (nI i)), (3, .ref o), (2, .ref mo), (1, .ref x), (0, .ref b)] → W p l e room_1 s m #[Value.ref b] below meth c H locs (K + 8) (N + 50) Q (F0 m 1171 ls [])) : W p l e room_1 s m #[Value.ref b] below meth c H locs K N Q (F0 m 188 ls []) := by
  obtain ⟨S, hl9, hE, hX, hN, hXs, hbl, hL⟩ := F
  have hx := S.1
  have hb := S.2.1
  have hbA := lw_nA hbl
  obtain ⟨u1, u2, u3, u4, u5, u6, u7, M, D, fk, tp, pt, pd, ov, hcl, hQ, ho⟩ := hI
  have hbd := moQ_bd hQ
  refine lv_aload_n hx hb d_la_law_188 rfl (lv_at hl 3 rfl) ?_
  refine lv_aload_n hx hb d_la_law_189 rfl (lv_at hl 4 rfl) ?_
  refine lv_iload hx hb d_la_law_190 (lv_at hl 0 rfl) ?_
  refine lv_iconst (v := nI 1) hx hb d_la_law_192 (by decide) ?_
  refine lv_iadd hx hb d_la_law_193 ?_
  refine g_topi (y := nI (i + 1)) (nI_add i 1) ?_
  refine va_sld hx hb hXs hbl hbA hG.2.2.1 (vp_in_nI (by omega) (by omega)) d_la_law_194 ?_
  refine g_topi (congrArg xs (nI_clamp (show (i + 1) < 2 ^ 31 by omega))) ?_
  refine lv_aload_n hx hb d_la_law_195 rfl (lv_at hl 4 rfl) ?_
  refine lv_iload hx hb d_la_law_196 (lv_at hl 0 rfl) ?_
  refine lv_iconst (v := nI 2) hx hb d_la_law_198 (by decide) ?_
  refine lv_iadd hx hb d_la_law_199 ?_
  refine g_topi (y := nI (i + 2)) (nI_add i 2) ?_
  refine va_sld hx hb hXs hbl hbA hG.2.2.1 (vp_in_nI (by omega) (by omega)) d_la_law_200 ?_
  refine g_topi (congrArg xs (nI_clamp (show (i + 2) < 2 ^ 31 by omega))) ?_
  refine lv_aload_n hx hb d_la_law_201 rfl (lv_at hl 4 rfl) ?_
  refine lv_iload hx hb d_la_law_202 (lv_at hl 0 rfl) ?_
  refine lv_iconst (v := nI 3) hx hb d_la_law_204 (by decide) ?_
  refine lv_iadd hx hb d_la_law_205 ?_
  refine g_topi (y := nI (i + 3)) (nI_add i 3) ?_
  refine va_sld hx hb hXs hbl hbA hG.2.2.1 (vp_in_nI (by omega) (by omega)) d_la_law_206 ?_
  refine g_topi (congrArg xs (nI_clamp (show (i + 3) < 2 ^ 31 by omega))) ?_
  refine lv_aload_n hx hb d_la_law_207 rfl (lv_at hl 4 rfl) ?_
  refine lv_iload hx hb d_la_law_208 (lv_at hl 0 rfl) ?_
  refine lv_iconst (v := nI 4) hx hb d_la_law_210 (by decide) ?_
  refine lv_iadd hx hb d_la_law_211 ?_
  refine g_topi (y := nI (i + 4)) (nI_add i 4) ?_
  refine va_sld hx hb hXs hbl hbA hG.2.2.1 (vp_in_nI (by omega) (by omega)) d_la_law_212 ?_
  refine g_topi (congrArg xs (nI_clamp (show (i + 4) < 2 ^ 31 by omega))) ?_
  refine lv_aload_n hx hb d_la_law_213 rfl (lv_at hl 1 rfl) ?_
  refine g_wi hG (g_runSW (As := [.ref x, .int (xs (i + 1)), .int (xs (i + 2)), .int (xs (i + 3)), .int (xs (i + 4)), .ref o]) (rest := []) S lk_la_90 k_la_care (c_la_care l hl9 Z G H.size x o hcl ho hbd (xs (i + 1)) (xs (i + 2)) (xs (i + 3)) (xs (i + 4))) ⟨rfl, rfl⟩ ⟨(Nat.le_of_ble_eq_true rfl), (Nat.le_of_ble_eq_true rfl)⟩ (gPyS hG hE hX hN) rfl hl.1 rfl (Nat.le_of_ble_eq_true rfl) d_la_law_214 ⟨(by omega), (by omega)⟩) (fun k214 G1 H locs hA hG => ?_)
  have hk1 : kX mE G G1 := by obtain ⟨_, _, h, _⟩ := hA; exact h
  have hQ1 := moQ_km hQ hk1
  obtain ⟨fm1, hm1⟩ := moQ_cell hQ1
  refine lv_istore (lv' := [(5, .int k214), (4, .int (nI i)), (3, .ref o), (2, .ref mo), (1, .ref x), (0, .ref b)]) hx hb d_la_law_217 hl (by decide) rfl (fun ls hl => ?_)
  refine lv_aload_n hx hb d_la_law_219 rfl (lv_at hl 3 rfl) ?_
  refine lv_aload_n hx hb d_la_law_220 rfl (lv_at hl 5 rfl) ?_
  refine lv_iload hx hb d_la_law_221 (lv_at hl 1 rfl) ?_
  refine lv_iconst (v := nI 1) hx hb d_la_law_223 (by decide) ?_
  refine lv_iadd hx hb d_la_law_224 ?_
  refine g_topi (y := nI (i + 1)) (nI_add i 1) ?_
  refine va_sld hx hb hXs hbl hbA hG.2.2.1 (vp_in_nI (by omega) (by omega)) d_la_law_225 ?_
  refine g_topi (congrArg xs (nI_clamp (show (i + 1) < 2 ^ 31 by omega))) ?_
  refine lv_aload_n hx hb d_la_law_226 rfl (lv_at hl 5 rfl) ?_
  refine lv_iload hx hb d_la_law_227 (lv_at hl 1 rfl) ?_
  refine lv_iconst (v := nI 2) hx hb d_la_law_229 (by decide) ?_
  refine lv_iadd hx hb d_la_law_230 ?_
  refine g_topi (y := nI (i + 2)) (nI_add i 2) ?_
  refine va_sld hx hb hXs hbl hbA hG.2.2.1 (vp_in_nI (by omega) (by omega)) d_la_law_231 ?_
  refine g_topi (congrArg xs (nI_clamp (show (i + 2) < 2 ^ 31 by omega))) ?_
  refine lv_aload_n hx hb d_la_law_232 rfl (lv_at hl 5 rfl) ?_
  refine lv_iload hx hb d_la_law_233 (lv_at hl 1 rfl) ?_
  refine lv_iconst (v := nI 3) hx hb d_la_law_235 (by decide) ?_
  refine lv_iadd hx hb d_la_law_236 ?_
  refine g_topi (y := nI (i + 3)) (nI_add i 3) ?_
  refine va_sld hx hb hXs hbl hbA hG.2.2.1 (vp_in_nI (by omega) (by omega)) d_la_law_237 ?_
  refine g_topi (congrArg xs (nI_clamp (show (i + 3) < 2 ^ 31 by omega))) ?_
  refine lv_aload_n hx hb d_la_law_238 rfl (lv_at hl 5 rfl) ?_
  refine lv_iload hx hb d_la_law_239 (lv_at hl 1 rfl) ?_
  refine lv_iconst (v := nI 4) hx hb d_la_law_241 (by decide) ?_
  refine lv_iadd hx hb d_la_law_242 ?_
  refine g_topi (y := nI (i + 4)) (nI_add i 4) ?_
  refine va_sld hx hb hXs hbl hbA hG.2.2.1 (vp_in_nI (by omega) (by omega)) d_la_law_243 ?_
  refine g_topi (congrArg xs (nI_clamp (show (i + 4) < 2 ^ 31 by omega))) ?_
  refine g_wi hG (g_runV (As := [.int (xs (i + 1)), .int (xs (i + 2)), .int (xs (i + 3)), .int (xs (i + 4))]) (rest := []) S lk_la_93 k_mo_care (c_mo_care l Z G1 H.size mo hQ1 (xs (i + 1)) (xs (i + 2)) (xs (i + 3)) (xs (i + 4))) ⟨rfl, rfl⟩ ⟨(Nat.le_of_ble_eq_true rfl), (Nat.le_of_ble_eq_true rfl)⟩ (gPwV hG.1 hE hm1 rfl) rfl hl.1 rfl (Nat.le_of_ble_eq_true rfl) d_la_law_244 ⟨(by omega), (by omega)⟩) (fun b244 G2 H locs hB hG => ?_)
  obtain ⟨M2, D2, fk2, tp2, pt2, pd2, ov2, hcl2, hQ2, ho2, ha2⟩ := j_care hQ hA hB
  refine lv_istore (lv' := [(6, .int b244), (5, .int k214), (4, .int (nI i)), (3, .ref o), (2, .ref mo), (1, .ref x), (0, .ref b)]) hx hb d_la_law_247 hl (by decide) rfl (fun ls hl => ?_)
  refine lv_aload_n hx hb d_la_law_249 rfl (lv_at hl 4 rfl) ?_
  obtain ⟨cf, mf, ff, gf, sf, tf, bf, hP2, -⟩ := id hQ2
  refine g_reti (g_runV (As := []) (rest := []) S lk_la_87 k_mo_thrown (c_mo_thrown l Z G2 mo hP2) ⟨rfl, rfl⟩ ⟨(Nat.le_of_ble_eq_true rfl), (Nat.le_of_ble_eq_true rfl)⟩ (gPreV hG.1 hE hP2.1 rfl) rfl hl.1 rfl (Nat.le_of_ble_eq_true rfl) d_la_law_250 ⟨(by omega), (by omega)⟩) (fun r250 h250 => ?_)
  refine g_topi (y := k214) h250 ?_
  refine lv_iload hx hb d_la_law_253 (lv_at hl 1 rfl) ?_
  refine lv_icmp_eq (tgt := 260) hx hb d_la_law_255 (by decide) (fun c255 => ?_) (fun c255 => absurd c255 (not_not_intro rfl))
  refine lv_iload hx hb d_la_law_260 (lv_at hl 1 rfl) ?_
  refine lv_if_ne (tgt := 284) hx hb d_la_law_262 (by decide) (fun c262 => ?_) (fun c262 => ?_)
  · refine lv_goto (tgt := 1171) hx hb d_la_law_284 (by decide) ?_
    refine W.widen (k := K + 8) (n := N + 50) (by omega) (by omega) ?_
    exact kk _ _ _ _ _ ⟨u1, u2, u3, u4, u5, u6, u7, M2, D2, fk2, tp2, pt2, pd2, ov2, hcl2, hQ2, ho2⟩ hG (lv_sub hl [2, 3, 4, 5, 6] rfl)
  · refine lv_aload_n hx hb d_la_law_265 rfl (lv_at hl 3 rfl) ?_
    refine lv_iconst (v := nI 0) hx hb d_la_law_266 (by decide) ?_
    refine g_lald S hE.1 hG.1 ho2 0 rfl (vp_in_nI (by omega) (by omega)) d_la_law_267 ?_
    refine g_topl (congrArg ov2 (nI_clamp (show 0 < 2 ^ 31 by omega))) ?_
    refine lv_iload hx hb d_la_law_268 (lv_at hl 0 rfl) ?_
    refine lv_if_eq (tgt := 277) hx hb d_la_law_270 (by decide) (fun c270 => ?_) (fun c270 => ?_)
    · refine lv_lconst (v := 0) hx hb d_la_law_277 (by decide) ?_
      refine W.lcmp hx hb d_la_law_278 ?_
      refine lv_if_eq (tgt := 284) hx hb d_la_law_279 (by decide) (fun c279 => ?_) (fun c279 => absurd c279 (not_not_intro ((lg_cmp_eq _ _).mpr ((ha2 c262).trans (zl_0 c270)))))
      refine lv_goto (tgt := 1171) hx hb d_la_law_284 (by decide) ?_
      refine W.widen (k := K + 8) (n := N + 50) (by omega) (by omega) ?_
      exact kk _ _ _ _ _ ⟨u1, u2, u3, u4, u5, u6, u7, M2, D2, fk2, tp2, pt2, pd2, ov2, hcl2, hQ2, ho2⟩ hG (lv_sub hl [2, 3, 4, 5, 6] rfl)
    · refine lv_lconst (v := 1) hx hb d_la_law_273 (by decide) ?_
      refine lv_goto (tgt := 278) hx hb d_la_law_274 (by decide) ?_
      refine W.lcmp hx hb d_la_law_278 ?_
      refine lv_if_eq (tgt := 284) hx hb d_la_law_279 (by decide) (fun c279 => ?_) (fun c279 => absurd c279 (not_not_intro ((lg_cmp_eq _ _).mpr ((ha2 c262).trans (zl_1 c270)))))
      refine lv_goto (tgt := 1171) hx hb d_la_law_284 (by decide) ?_
      refine W.widen (k := K + 8) (n := N + 50) (by omega) (by omega) ?_
      exact kk _ _ _ _ _ ⟨u1, u2, u3, u4, u5, u6, u7, M2, D2, fk2, tp2, pt2, pd2, ov2, hcl2, hQ2, ho2⟩ hG (lv_sub hl [2, 3, 4, 5, 6] rfl)
set_option maxHeartbeats 600000 in
set_option maxRecDepth 100000 in
theorem st_2 {p : Program} {l : Launch} {e : Env} {s : State} {m : MethodId} {below : List Frame} {meth : Method} {c : Code} {Q : State → Prop} {Z : gZ} {b L x mo o C E i K N : Nat} {xs : Nat → Int32} {th : Int32} (F : lwF p l s m c Z b L xs) {G : gh} {H : Heap} {locs : List Loc} {ls : Array Slot} (hI : lwI Z G x mo o C E th) (hG : gS (gA (fun _ => none) s.heap.size) s.heap Z.1 cls G H locs) (hl : lv_has ls 8 [(4, .int (nI i)), (3, .ref o), (2, .ref mo), (1, .ref x), (0, .ref b)]) (hi : i + 5 ≤ L) (hKc : K + 8 ≤ room_1.cells) (hKs : N + 50 ≤ room_1.slots) (kk : ∀ (G : gh) (H : Heap) (locs : List Loc) (ls : Array Slot) (th : Int32), lwI Z G x mo o C E th → gS (gA (fun _ => none) s.heap.size) s.heap Z.1 cls G H locs → lv_has ls 8 [(4, .int (nI i)), (3, .ref o), (2, .ref mo), (1, .ref x), (0, .ref b)] → W p l e room_1 s m #[Value.ref b] below meth c H locs (K + 8) (N + 50) Q (F0 m 1171 ls [])) : W p l e room_1 s m #[Value.ref b] below meth c H locs K N Q (F0 m 287 ls []) := by
  obtain ⟨S, hl9, hE, hX, hN, hXs, hbl, hL⟩ := F
  have hx := S.1
  have hb := S.2.1
  have hbA := lw_nA hbl
  obtain ⟨u1, u2, u3, u4, u5, u6, u7, M, D, fk, tp, pt, pd, ov, hcl, hQ, ho⟩ := hI
  have hbd := moQ_bd hQ
  refine lv_aload_n hx hb d_la_law_287 rfl (lv_at hl 3 rfl) ?_
  obtain ⟨sh, ma, ro, pa, rw, hc⟩ := id hcl
  obtain ⟨fx, fs, fm, fro, fpa, hpt, hinj⟩ := id hc
  refine g_wi hG (g_runV (As := []) (rest := []) S lk_la_94 k_ps_join (c_ps_join l Z G H.size x fx fpa hpt hinj) ⟨rfl, rfl⟩ ⟨(Nat.le_of_ble_eq_true rfl), (Nat.le_of_ble_eq_true rfl)⟩ (gPwV hG.1 hE fx rfl) rfl hl.1 rfl (Nat.le_of_ble_eq_true rfl) d_la_law_288 ⟨(by omega), (by omega)⟩) (fun k288 G1 H locs hA hG => ?_)
  obtain ⟨hcl1, hk1⟩ : clQ Z G1 x C E M D fk tp pt (joinD pt pd 24) ∧ kX noC G G1 := by rw [hA.1]; exact ⟨⟨_, _, _, _, _, (clP_pat hc _).1⟩, (clP_pat hc _).2⟩
  have hQ1 := moQ_km hQ (hk1.mono (fun _ h => Or.inl h : ∀ e, mE e → noC e))
  obtain ⟨fm1, hm1⟩ := moQ_cell hQ1
  refine lv_aload_n hx hb d_la_law_291 rfl (lv_at hl 2 rfl) ?_
  refine g_wi hG (g_runV (As := []) (rest := [.int k288]) S lk_la_97 k_mo_join (c_mo_join l Z G1 H.size mo hQ1 ) ⟨rfl, rfl⟩ ⟨(Nat.le_of_ble_eq_true rfl), (Nat.le_of_ble_eq_true rfl)⟩ (gPwV hG.1 hE hm1 rfl) rfl hl.1 rfl (Nat.le_of_ble_eq_true rfl) d_la_law_292 ⟨(by omega), (by omega)⟩) (fun b292 G2 H locs hB hG => ?_)
  obtain ⟨M2, D2, fk2, tp2, pt2, pd2, ov2, hcl2, hQ2, ho2, ha2⟩ := j_join hQ hcl1 hk1 ho hB
  refine lv_icmp_eq (tgt := 1171) hx hb d_la_law_295 (by decide) (fun c295 => ?_) (fun c295 => absurd c295 (not_not_intro (hA.2.trans hB.2.2.symm)))
  refine W.widen (k := K + 8) (n := N + 50) (by omega) (by omega) ?_
  exact kk _ _ _ _ _ ⟨u1, u2, u3, u4, u5, u6, u7, M2, D2, fk2, tp2, pt2, pd2, ov2, hcl2, hQ2, ho2⟩ hG (lv_sub hl [0, 1, 2, 3, 4] rfl)
set_option maxHeartbeats 600000 in
set_option maxRecDepth 100000 in
theorem st_3 {p : Program} {l : Launch} {e : Env} {s : State} {m : MethodId} {below : List Frame} {meth : Method} {c : Code} {Q : State → Prop} {Z : gZ} {b L x mo o C E i K N : Nat} {xs : Nat → Int32} {th : Int32} (F : lwF p l s m c Z b L xs) {G : gh} {H : Heap} {locs : List Loc} {ls : Array Slot} (hI : lwI Z G x mo o C E th) (hG : gS (gA (fun _ => none) s.heap.size) s.heap Z.1 cls G H locs) (hl : lv_has ls 8 [(4, .int (nI i)), (3, .ref o), (2, .ref mo), (1, .ref x), (0, .ref b)]) (hi : i + 5 ≤ L) (hKc : K + 8 ≤ room_1.cells) (hKs : N + 50 ≤ room_1.slots) (kk : ∀ (G : gh) (H : Heap) (locs : List Loc) (ls : Array Slot) (th : Int32), lwI Z G x mo o C E th → gS (gA (fun _ => none) s.heap.size) s.heap Z.1 cls G H locs → lv_has ls 8 [(4, .int (nI i)), (3, .ref o), (2, .ref mo), (1, .ref x), (0, .ref b)] → W p l e room_1 s m #[Value.ref b] below meth c H locs (K + 8) (N + 50) Q (F0 m 1171 ls [])) : W p l e room_1 s m #[Value.ref b] below meth c H locs K N Q (F0 m 300 ls []) := by
  obtain ⟨S, hl9, hE, hX, hN, hXs, hbl, hL⟩ := F
  have hx := S.1
  have hb := S.2.1
  have hbA := lw_nA hbl
  obtain ⟨u1, u2, u3, u4, u5, u6, u7, M, D, fk, tp, pt, pd, ov, hcl, hQ, ho⟩ := hI
  have hbd := moQ_bd hQ
  refine lv_aload_n hx hb d_la_law_300 rfl (lv_at hl 3 rfl) ?_
  refine lv_aload_n hx hb d_la_law_301 rfl (lv_at hl 4 rfl) ?_
  refine lv_iload hx hb d_la_law_302 (lv_at hl 0 rfl) ?_
  refine lv_iconst (v := nI 1) hx hb d_la_law_304 (by decide) ?_
  refine lv_iadd hx hb d_la_law_305 ?_
  refine g_topi (y := nI (i + 1)) (nI_add i 1) ?_
  refine va_sld hx hb hXs hbl hbA hG.2.2.1 (vp_in_nI (by omega) (by omega)) d_la_law_306 ?_
  refine g_topi (congrArg xs (nI_clamp (show (i + 1) < 2 ^ 31 by omega))) ?_
  refine g_wi hG (g_runSW (As := [.ref x, .int (xs (i + 1))]) (rest := []) S lk_la_98 k_la_degree (c_la_degree l hl9 Z G H.size x o hcl ho hbd (xs (i + 1))) ⟨rfl, rfl⟩ ⟨(Nat.le_of_ble_eq_true rfl), (Nat.le_of_ble_eq_true rfl)⟩ (gPyS hG hE hX hN) rfl hl.1 rfl (Nat.le_of_ble_eq_true rfl) d_la_law_307 ⟨(by omega), (by omega)⟩) (fun k307 G1 H locs hA hG => ?_)
  have hk1 : kX mE G G1 := hA.1.mono (fun _ h => Or.inl h : ∀ e, mE e → noC e)
  have hQ1 := moQ_km hQ hk1
  obtain ⟨fm1, hm1⟩ := moQ_cell hQ1
  refine lv_istore (lv' := [(5, .int k307), (4, .int (nI i)), (3, .ref o), (2, .ref mo), (1, .ref x), (0, .ref b)]) hx hb d_la_law_310 hl (by decide) rfl (fun ls hl => ?_)
  refine lv_aload_n hx hb d_la_law_312 rfl (lv_at hl 3 rfl) ?_
  refine lv_aload_n hx hb d_la_law_313 rfl (lv_at hl 5 rfl) ?_
  refine lv_iload hx hb d_la_law_314 (lv_at hl 1 rfl) ?_
  refine lv_iconst (v := nI 1) hx hb d_la_law_316 (by decide) ?_
  refine lv_iadd hx hb d_la_law_317 ?_
  refine g_topi (y := nI (i + 1)) (nI_add i 1) ?_
  refine va_sld hx hb hXs hbl hbA hG.2.2.1 (vp_in_nI (by omega) (by omega)) d_la_law_318 ?_
  refine g_topi (congrArg xs (nI_clamp (show (i + 1) < 2 ^ 31 by omega))) ?_
  refine g_wv hG (g_runV (As := [.int (xs (i + 1))]) (rest := []) S lk_la_101 k_mo_degree (c_mo_degree l Z G1 H.size mo hQ1 (xs (i + 1))) ⟨rfl, rfl⟩ ⟨(Nat.le_of_ble_eq_true rfl), (Nat.le_of_ble_eq_true rfl)⟩ (gPwV hG.1 hE hm1 rfl) rfl hl.1 rfl (Nat.le_of_ble_eq_true rfl) d_la_law_319 ⟨(by omega), (by omega)⟩) (fun G2 H locs hB hG => ?_)
  obtain ⟨M2, D2, fk2, tp2, pt2, pd2, ov2, hcl2, hQ2, ho2, ha2⟩ := j_degree (ov := ov) ho hQ hA hB
  refine lv_aload_n hx hb d_la_law_322 rfl (lv_at hl 3 rfl) ?_
  obtain ⟨cf, mf, ff, gf, sf, tf, bf, hP2, -⟩ := id hQ2
  refine g_reti (g_runV (As := []) (rest := []) S lk_la_87 k_mo_thrown (c_mo_thrown l Z G2 mo hP2) ⟨rfl, rfl⟩ ⟨(Nat.le_of_ble_eq_true rfl), (Nat.le_of_ble_eq_true rfl)⟩ (gPreV hG.1 hE hP2.1 rfl) rfl hl.1 rfl (Nat.le_of_ble_eq_true rfl) d_la_law_323 ⟨(by omega), (by omega)⟩) (fun r323 h323 => ?_)
  refine g_topi (y := k307) h323 ?_
  refine lv_iload hx hb d_la_law_326 (lv_at hl 0 rfl) ?_
  refine lv_icmp_eq (tgt := 333) hx hb d_la_law_328 (by decide) (fun c328 => ?_) (fun c328 => absurd c328 (not_not_intro rfl))
  refine lv_goto (tgt := 1171) hx hb d_la_law_333 (by decide) ?_
  refine W.widen (k := K + 8) (n := N + 50) (by omega) (by omega) ?_
  exact kk _ _ _ _ _ ⟨u1, u2, u3, u4, u5, u6, u7, M2, D2, fk2, tp2, pt2, pd2, ov2, hcl2, hQ2, ho2⟩ hG (lv_sub hl [1, 2, 3, 4, 5] rfl)
set_option maxHeartbeats 600000 in
set_option maxRecDepth 100000 in
theorem st_4 {p : Program} {l : Launch} {e : Env} {s : State} {m : MethodId} {below : List Frame} {meth : Method} {c : Code} {Q : State → Prop} {Z : gZ} {b L x mo o C E i K N : Nat} {xs : Nat → Int32} {th : Int32} (F : lwF p l s m c Z b L xs) {G : gh} {H : Heap} {locs : List Loc} {ls : Array Slot} (hI : lwI Z G x mo o C E th) (hG : gS (gA (fun _ => none) s.heap.size) s.heap Z.1 cls G H locs) (hl : lv_has ls 8 [(4, .int (nI i)), (3, .ref o), (2, .ref mo), (1, .ref x), (0, .ref b)]) (hi : i + 5 ≤ L) (hKc : K + 8 ≤ room_1.cells) (hKs : N + 50 ≤ room_1.slots) (kk : ∀ (G : gh) (H : Heap) (locs : List Loc) (ls : Array Slot) (th : Int32), lwI Z G x mo o C E th → gS (gA (fun _ => none) s.heap.size) s.heap Z.1 cls G H locs → lv_has ls 8 [(4, .int (nI i)), (3, .ref o), (2, .ref mo), (1, .ref x), (0, .ref b)] → W p l e room_1 s m #[Value.ref b] below meth c H locs (K + 8) (N + 50) Q (F0 m 1171 ls [])) : W p l e room_1 s m #[Value.ref b] below meth c H locs K N Q (F0 m 336 ls []) := by
  obtain ⟨S, hl9, hE, hX, hN, hXs, hbl, hL⟩ := F
  have hx := S.1
  have hb := S.2.1
  have hbA := lw_nA hbl
  obtain ⟨u1, u2, u3, u4, u5, u6, u7, M, D, fk, tp, pt, pd, ov, hcl, hQ, ho⟩ := hI
  have hbd := moQ_bd hQ
  refine lv_aload_n hx hb d_la_law_336 rfl (lv_at hl 3 rfl) ?_
  refine lv_aload_n hx hb d_la_law_337 rfl (lv_at hl 4 rfl) ?_
  refine lv_iload hx hb d_la_law_338 (lv_at hl 0 rfl) ?_
  refine lv_iconst (v := nI 1) hx hb d_la_law_340 (by decide) ?_
  refine lv_iadd hx hb d_la_law_341 ?_
  refine g_topi (y := nI (i + 1)) (nI_add i 1) ?_
  refine va_sld hx hb hXs hbl hbA hG.2.2.1 (vp_in_nI (by omega) (by omega)) d_la_law_342 ?_
  refine g_topi (congrArg xs (nI_clamp (show (i + 1) < 2 ^ 31 by omega))) ?_
  refine lv_aload_n hx hb d_la_law_343 rfl (lv_at hl 4 rfl) ?_
  refine lv_iload hx hb d_la_law_344 (lv_at hl 0 rfl) ?_
  refine lv_iconst (v := nI 2) hx hb d_la_law_346 (by decide) ?_
  refine lv_iadd hx hb d_la_law_347 ?_
  refine g_topi (y := nI (i + 2)) (nI_add i 2) ?_
  refine va_sld hx hb hXs hbl hbA hG.2.2.1 (vp_in_nI (by omega) (by omega)) d_la_law_348 ?_
  refine g_topi (congrArg xs (nI_clamp (show (i + 2) < 2 ^ 31 by omega))) ?_
  refine lv_if_eq (tgt := 356) hx hb d_la_law_349 (by decide) (fun c349 => ?_) (fun c349 => ?_)
  · refine lv_iconst (v := nI 0) hx hb d_la_law_356 (by decide) ?_
    refine lv_aload_n hx hb d_la_law_357 rfl (lv_at hl 1 rfl) ?_
    refine g_wi hG (g_runSW (As := [.ref x, .int (xs (i + 1)), .int (nI 0), .ref o]) (rest := []) S lk_la_102 k_la_machine (c_la_machine l hl9 Z G H.size x o hcl ho hbd (xs (i + 1)) (nI 0)) ⟨rfl, rfl⟩ ⟨(Nat.le_of_ble_eq_true rfl), (Nat.le_of_ble_eq_true rfl)⟩ (gPyS hG hE hX hN) rfl hl.1 rfl (Nat.le_of_ble_eq_true rfl) d_la_law_358 ⟨(by omega), (by omega)⟩) (fun k358 G1 H locs hA hG => ?_)
    have hk1 : kX mE G G1 := by obtain ⟨_, _, h, _⟩ := hA; exact h
    have hQ1 := moQ_km hQ hk1
    obtain ⟨fm1, hm1⟩ := moQ_cell hQ1
    refine lv_istore (lv' := [(5, .int k358), (4, .int (nI i)), (3, .ref o), (2, .ref mo), (1, .ref x), (0, .ref b)]) hx hb d_la_law_361 hl (by decide) rfl (fun ls hl => ?_)
    refine lv_aload_n hx hb d_la_law_363 rfl (lv_at hl 3 rfl) ?_
    refine lv_aload_n hx hb d_la_law_364 rfl (lv_at hl 5 rfl) ?_
    refine lv_iload hx hb d_la_law_365 (lv_at hl 1 rfl) ?_
    refine lv_iconst (v := nI 1) hx hb d_la_law_367 (by decide) ?_
    refine lv_iadd hx hb d_la_law_368 ?_
    refine g_topi (y := nI (i + 1)) (nI_add i 1) ?_
    refine va_sld hx hb hXs hbl hbA hG.2.2.1 (vp_in_nI (by omega) (by omega)) d_la_law_369 ?_
    refine g_topi (congrArg xs (nI_clamp (show (i + 1) < 2 ^ 31 by omega))) ?_
    refine lv_aload_n hx hb d_la_law_370 rfl (lv_at hl 5 rfl) ?_
    refine lv_iload hx hb d_la_law_371 (lv_at hl 1 rfl) ?_
    refine lv_iconst (v := nI 2) hx hb d_la_law_373 (by decide) ?_
    refine lv_iadd hx hb d_la_law_374 ?_
    refine g_topi (y := nI (i + 2)) (nI_add i 2) ?_
    refine va_sld hx hb hXs hbl hbA hG.2.2.1 (vp_in_nI (by omega) (by omega)) d_la_law_375 ?_
    refine g_topi (congrArg xs (nI_clamp (show (i + 2) < 2 ^ 31 by omega))) ?_
    refine lv_if_eq (tgt := 383) hx hb d_la_law_376 (by decide) (fun c376 => ?_) (fun c376 => absurd c376 (not_not_intro c349))
    refine lv_iconst (v := nI 0) hx hb d_la_law_383 (by decide) ?_
    refine g_wi hG (g_runV (As := [.int (xs (i + 1)), .int (nI 0)]) (rest := []) S lk_la_105 k_mo_machine (c_mo_machine l Z G1 H.size mo hQ1 (xs (i + 1)) (nI 0) (Or.inl rfl)) ⟨rfl, rfl⟩ ⟨(Nat.le_of_ble_eq_true rfl), (Nat.le_of_ble_eq_true rfl)⟩ (gPwV hG.1 hE hm1 rfl) rfl hl.1 rfl (Nat.le_of_ble_eq_true rfl) d_la_law_384 ⟨(by omega), (by omega)⟩) (fun b384 G2 H locs hB hG => ?_)
    obtain ⟨M2, D2, fk2, tp2, pt2, pd2, ov2, hcl2, hQ2, ho2, ha2⟩ := j_machine hQ hA hB
    refine lv_istore (lv' := [(6, .int b384), (5, .int k358), (4, .int (nI i)), (3, .ref o), (2, .ref mo), (1, .ref x), (0, .ref b)]) hx hb d_la_law_387 hl (by decide) rfl (fun ls hl => ?_)
    refine lv_aload_n hx hb d_la_law_389 rfl (lv_at hl 4 rfl) ?_
    obtain ⟨cf, mf, ff, gf, sf, tf, bf, hP2, -⟩ := id hQ2
    refine g_reti (g_runV (As := []) (rest := []) S lk_la_87 k_mo_thrown (c_mo_thrown l Z G2 mo hP2) ⟨rfl, rfl⟩ ⟨(Nat.le_of_ble_eq_true rfl), (Nat.le_of_ble_eq_true rfl)⟩ (gPreV hG.1 hE hP2.1 rfl) rfl hl.1 rfl (Nat.le_of_ble_eq_true rfl) d_la_law_390 ⟨(by omega), (by omega)⟩) (fun r390 h390 => ?_)
    refine g_topi (y := k358) h390 ?_
    refine lv_iload hx hb d_la_law_393 (lv_at hl 1 rfl) ?_
    refine lv_icmp_eq (tgt := 400) hx hb d_la_law_395 (by decide) (fun c395 => ?_) (fun c395 => absurd c395 (not_not_intro rfl))
    refine lv_iload hx hb d_la_law_400 (lv_at hl 1 rfl) ?_
    refine lv_if_ne (tgt := 424) hx hb d_la_law_402 (by decide) (fun c402 => ?_) (fun c402 => ?_)
    · refine lv_goto (tgt := 1171) hx hb d_la_law_424 (by decide) ?_
      refine W.widen (k := K + 8) (n := N + 50) (by omega) (by omega) ?_
      exact kk _ _ _ _ _ ⟨u1, u2, u3, u4, u5, u6, u7, M2, D2, fk2, tp2, pt2, pd2, ov2, hcl2, hQ2, ho2⟩ hG (lv_sub hl [2, 3, 4, 5, 6] rfl)
    · refine lv_aload_n hx hb d_la_law_405 rfl (lv_at hl 3 rfl) ?_
      refine lv_iconst (v := nI 0) hx hb d_la_law_406 (by decide) ?_
      refine g_lald S hE.1 hG.1 ho2 0 rfl (vp_in_nI (by omega) (by omega)) d_la_law_407 ?_
      refine g_topl (congrArg ov2 (nI_clamp (show 0 < 2 ^ 31 by omega))) ?_
      refine lv_iload hx hb d_la_law_408 (lv_at hl 0 rfl) ?_
      refine lv_if_eq (tgt := 417) hx hb d_la_law_410 (by decide) (fun c410 => ?_) (fun c410 => ?_)
      · refine lv_lconst (v := 0) hx hb d_la_law_417 (by decide) ?_
        refine W.lcmp hx hb d_la_law_418 ?_
        refine lv_if_eq (tgt := 424) hx hb d_la_law_419 (by decide) (fun c419 => ?_) (fun c419 => absurd c419 (not_not_intro ((lg_cmp_eq _ _).mpr ((ha2 c402).trans (zl_0 c410)))))
        refine lv_goto (tgt := 1171) hx hb d_la_law_424 (by decide) ?_
        refine W.widen (k := K + 8) (n := N + 50) (by omega) (by omega) ?_
        exact kk _ _ _ _ _ ⟨u1, u2, u3, u4, u5, u6, u7, M2, D2, fk2, tp2, pt2, pd2, ov2, hcl2, hQ2, ho2⟩ hG (lv_sub hl [2, 3, 4, 5, 6] rfl)
      · refine lv_lconst (v := 1) hx hb d_la_law_413 (by decide) ?_
        refine lv_goto (tgt := 418) hx hb d_la_law_414 (by decide) ?_
        refine W.lcmp hx hb d_la_law_418 ?_
        refine lv_if_eq (tgt := 424) hx hb d_la_law_419 (by decide) (fun c419 => ?_) (fun c419 => absurd c419 (not_not_intro ((lg_cmp_eq _ _).mpr ((ha2 c402).trans (zl_1 c410)))))
        refine lv_goto (tgt := 1171) hx hb d_la_law_424 (by decide) ?_
        refine W.widen (k := K + 8) (n := N + 50) (by omega) (by omega) ?_
        exact kk _ _ _ _ _ ⟨u1, u2, u3, u4, u5, u6, u7, M2, D2, fk2, tp2, pt2, pd2, ov2, hcl2, hQ2, ho2⟩ hG (lv_sub hl [2, 3, 4, 5, 6] rfl)
  · refine lv_iconst (v := nI 1) hx hb d_la_law_352 (by decide) ?_
    refine lv_goto (tgt := 357) hx hb d_la_law_353 (by decide) ?_
    refine lv_aload_n hx hb d_la_law_357 rfl (lv_at hl 1 rfl) ?_
    refine g_wi hG (g_runSW (As := [.ref x, .int (xs (i + 1)), .int (nI 1), .ref o]) (rest := []) S lk_la_102 k_la_machine (c_la_machine l hl9 Z G H.size x o hcl ho hbd (xs (i + 1)) (nI 1)) ⟨rfl, rfl⟩ ⟨(Nat.le_of_ble_eq_true rfl), (Nat.le_of_ble_eq_true rfl)⟩ (gPyS hG hE hX hN) rfl hl.1 rfl (Nat.le_of_ble_eq_true rfl) d_la_law_358 ⟨(by omega), (by omega)⟩) (fun k358 G1 H locs hA hG => ?_)
    have hk1 : kX mE G G1 := by obtain ⟨_, _, h, _⟩ := hA; exact h
    have hQ1 := moQ_km hQ hk1
    obtain ⟨fm1, hm1⟩ := moQ_cell hQ1
    refine lv_istore (lv' := [(5, .int k358), (4, .int (nI i)), (3, .ref o), (2, .ref mo), (1, .ref x), (0, .ref b)]) hx hb d_la_law_361 hl (by decide) rfl (fun ls hl => ?_)
    refine lv_aload_n hx hb d_la_law_363 rfl (lv_at hl 3 rfl) ?_
    refine lv_aload_n hx hb d_la_law_364 rfl (lv_at hl 5 rfl) ?_
    refine lv_iload hx hb d_la_law_365 (lv_at hl 1 rfl) ?_
    refine lv_iconst (v := nI 1) hx hb d_la_law_367 (by decide) ?_
    refine lv_iadd hx hb d_la_law_368 ?_
    refine g_topi (y := nI (i + 1)) (nI_add i 1) ?_
    refine va_sld hx hb hXs hbl hbA hG.2.2.1 (vp_in_nI (by omega) (by omega)) d_la_law_369 ?_
    refine g_topi (congrArg xs (nI_clamp (show (i + 1) < 2 ^ 31 by omega))) ?_
    refine lv_aload_n hx hb d_la_law_370 rfl (lv_at hl 5 rfl) ?_
    refine lv_iload hx hb d_la_law_371 (lv_at hl 1 rfl) ?_
    refine lv_iconst (v := nI 2) hx hb d_la_law_373 (by decide) ?_
    refine lv_iadd hx hb d_la_law_374 ?_
    refine g_topi (y := nI (i + 2)) (nI_add i 2) ?_
    refine va_sld hx hb hXs hbl hbA hG.2.2.1 (vp_in_nI (by omega) (by omega)) d_la_law_375 ?_
    refine g_topi (congrArg xs (nI_clamp (show (i + 2) < 2 ^ 31 by omega))) ?_
    refine lv_if_eq (tgt := 383) hx hb d_la_law_376 (by decide) (fun c376 => absurd c376 c349) (fun c376 => ?_)
    refine lv_iconst (v := nI 1) hx hb d_la_law_379 (by decide) ?_
    refine lv_goto (tgt := 384) hx hb d_la_law_380 (by decide) ?_
    refine g_wi hG (g_runV (As := [.int (xs (i + 1)), .int (nI 1)]) (rest := []) S lk_la_105 k_mo_machine (c_mo_machine l Z G1 H.size mo hQ1 (xs (i + 1)) (nI 1) (Or.inr rfl)) ⟨rfl, rfl⟩ ⟨(Nat.le_of_ble_eq_true rfl), (Nat.le_of_ble_eq_true rfl)⟩ (gPwV hG.1 hE hm1 rfl) rfl hl.1 rfl (Nat.le_of_ble_eq_true rfl) d_la_law_384 ⟨(by omega), (by omega)⟩) (fun b384 G2 H locs hB hG => ?_)
    obtain ⟨M2, D2, fk2, tp2, pt2, pd2, ov2, hcl2, hQ2, ho2, ha2⟩ := j_machine hQ hA hB
    refine lv_istore (lv' := [(6, .int b384), (5, .int k358), (4, .int (nI i)), (3, .ref o), (2, .ref mo), (1, .ref x), (0, .ref b)]) hx hb d_la_law_387 hl (by decide) rfl (fun ls hl => ?_)
    refine lv_aload_n hx hb d_la_law_389 rfl (lv_at hl 4 rfl) ?_
    obtain ⟨cf, mf, ff, gf, sf, tf, bf, hP2, -⟩ := id hQ2
    refine g_reti (g_runV (As := []) (rest := []) S lk_la_87 k_mo_thrown (c_mo_thrown l Z G2 mo hP2) ⟨rfl, rfl⟩ ⟨(Nat.le_of_ble_eq_true rfl), (Nat.le_of_ble_eq_true rfl)⟩ (gPreV hG.1 hE hP2.1 rfl) rfl hl.1 rfl (Nat.le_of_ble_eq_true rfl) d_la_law_390 ⟨(by omega), (by omega)⟩) (fun r390 h390 => ?_)
    refine g_topi (y := k358) h390 ?_
    refine lv_iload hx hb d_la_law_393 (lv_at hl 1 rfl) ?_
    refine lv_icmp_eq (tgt := 400) hx hb d_la_law_395 (by decide) (fun c395 => ?_) (fun c395 => absurd c395 (not_not_intro rfl))
    refine lv_iload hx hb d_la_law_400 (lv_at hl 1 rfl) ?_
    refine lv_if_ne (tgt := 424) hx hb d_la_law_402 (by decide) (fun c402 => ?_) (fun c402 => ?_)
    · refine lv_goto (tgt := 1171) hx hb d_la_law_424 (by decide) ?_
      refine W.widen (k := K + 8) (n := N + 50) (by omega) (by omega) ?_
      exact kk _ _ _ _ _ ⟨u1, u2, u3, u4, u5, u6, u7, M2, D2, fk2, tp2, pt2, pd2, ov2, hcl2, hQ2, ho2⟩ hG (lv_sub hl [2, 3, 4, 5, 6] rfl)
    · refine lv_aload_n hx hb d_la_law_405 rfl (lv_at hl 3 rfl) ?_
      refine lv_iconst (v := nI 0) hx hb d_la_law_406 (by decide) ?_
      refine g_lald S hE.1 hG.1 ho2 0 rfl (vp_in_nI (by omega) (by omega)) d_la_law_407 ?_
      refine g_topl (congrArg ov2 (nI_clamp (show 0 < 2 ^ 31 by omega))) ?_
      refine lv_iload hx hb d_la_law_408 (lv_at hl 0 rfl) ?_
      refine lv_if_eq (tgt := 417) hx hb d_la_law_410 (by decide) (fun c410 => ?_) (fun c410 => ?_)
      · refine lv_lconst (v := 0) hx hb d_la_law_417 (by decide) ?_
        refine W.lcmp hx hb d_la_law_418 ?_
        refine lv_if_eq (tgt := 424) hx hb d_la_law_419 (by decide) (fun c419 => ?_) (fun c419 => absurd c419 (not_not_intro ((lg_cmp_eq _ _).mpr ((ha2 c402).trans (zl_0 c410)))))
        refine lv_goto (tgt := 1171) hx hb d_la_law_424 (by decide) ?_
        refine W.widen (k := K + 8) (n := N + 50) (by omega) (by omega) ?_
        exact kk _ _ _ _ _ ⟨u1, u2, u3, u4, u5, u6, u7, M2, D2, fk2, tp2, pt2, pd2, ov2, hcl2, hQ2, ho2⟩ hG (lv_sub hl [2, 3, 4, 5, 6] rfl)
      · refine lv_lconst (v := 1) hx hb d_la_law_413 (by decide) ?_
        refine lv_goto (tgt := 418) hx hb d_la_law_414 (by decide) ?_
        refine W.lcmp hx hb d_la_law_418 ?_
        refine lv_if_eq (tgt := 424) hx hb d_la_law_419 (by decide) (fun c419 => ?_) (fun c419 => absurd c419 (not_not_intro ((lg_cmp_eq _ _).mpr ((ha2 c402).trans (zl_1 c410)))))
        refine lv_goto (tgt := 1171) hx hb d_la_law_424 (by decide) ?_
        refine W.widen (k := K + 8) (n := N + 50) (by omega) (by omega) ?_
        exact kk _ _ _ _ _ ⟨u1, u2, u3, u4, u5, u6, u7, M2, D2, fk2, tp2, pt2, pd2, ov2, hcl2, hQ2, ho2⟩ hG (lv_sub hl [2, 3, 4, 5, 6] rfl)
set_option maxHeartbeats 600000 in
set_option maxRecDepth 100000 in
theorem st_5 {p : Program} {l : Launch} {e : Env} {s : State} {m : MethodId} {below : List Frame} {meth : Method} {c : Code} {Q : State → Prop} {Z : gZ} {b L x mo o C E i K N : Nat} {xs : Nat → Int32} {th : Int32} (F : lwF p l s m c Z b L xs) {G : gh} {H : Heap} {locs : List Loc} {ls : Array Slot} (hI : lwI Z G x mo o C E th) (hG : gS (gA (fun _ => none) s.heap.size) s.heap Z.1 cls G H locs) (hl : lv_has ls 8 [(4, .int (nI i)), (3, .ref o), (2, .ref mo), (1, .ref x), (0, .ref b)]) (hi : i + 5 ≤ L) (hKc : K + 8 ≤ room_1.cells) (hKs : N + 50 ≤ room_1.slots) (kk : ∀ (G : gh) (H : Heap) (locs : List Loc) (ls : Array Slot) (th : Int32), lwI Z G x mo o C E th → gS (gA (fun _ => none) s.heap.size) s.heap Z.1 cls G H locs → lv_has ls 8 [(4, .int (nI i)), (3, .ref o), (2, .ref mo), (1, .ref x), (0, .ref b)] → W p l e room_1 s m #[Value.ref b] below meth c H locs (K + 8) (N + 50) Q (F0 m 1171 ls [])) : W p l e room_1 s m #[Value.ref b] below meth c H locs K N Q (F0 m 427 ls []) := by
  obtain ⟨S, hl9, hE, hX, hN, hXs, hbl, hL⟩ := F
  have hx := S.1
  have hb := S.2.1
  have hbA := lw_nA hbl
  obtain ⟨u1, u2, u3, u4, u5, u6, u7, M, D, fk, tp, pt, pd, ov, hcl, hQ, ho⟩ := hI
  have hbd := moQ_bd hQ
  refine lv_aload_n hx hb d_la_law_427 rfl (lv_at hl 3 rfl) ?_
  refine lv_aload_n hx hb d_la_law_428 rfl (lv_at hl 4 rfl) ?_
  refine lv_iload hx hb d_la_law_429 (lv_at hl 0 rfl) ?_
  refine lv_iconst (v := nI 1) hx hb d_la_law_431 (by decide) ?_
  refine lv_iadd hx hb d_la_law_432 ?_
  refine g_topi (y := nI (i + 1)) (nI_add i 1) ?_
  refine va_sld hx hb hXs hbl hbA hG.2.2.1 (vp_in_nI (by omega) (by omega)) d_la_law_433 ?_
  refine g_topi (congrArg xs (nI_clamp (show (i + 1) < 2 ^ 31 by omega))) ?_
  refine lv_aload_n hx hb d_la_law_434 rfl (lv_at hl 1 rfl) ?_
  refine g_wi hG (g_runSW (As := [.ref x, .int (xs (i + 1)), .ref o]) (rest := []) S lk_la_106 k_la_seed (c_la_seed l hl9 Z G H.size x o hcl ho hbd (xs (i + 1))) ⟨rfl, rfl⟩ ⟨(Nat.le_of_ble_eq_true rfl), (Nat.le_of_ble_eq_true rfl)⟩ (gPyS hG hE hX hN) rfl hl.1 rfl (Nat.le_of_ble_eq_true rfl) d_la_law_435 ⟨(by omega), (by omega)⟩) (fun k435 G1 H locs hA hG => ?_)
  have hk1 : kX mE G G1 := by obtain ⟨_, _, h, _⟩ := hA; exact h
  have hQ1 := moQ_km hQ hk1
  obtain ⟨fm1, hm1⟩ := moQ_cell hQ1
  refine lv_istore (lv' := [(5, .int k435), (4, .int (nI i)), (3, .ref o), (2, .ref mo), (1, .ref x), (0, .ref b)]) hx hb d_la_law_438 hl (by decide) rfl (fun ls hl => ?_)
  refine lv_aload_n hx hb d_la_law_440 rfl (lv_at hl 3 rfl) ?_
  refine lv_aload_n hx hb d_la_law_441 rfl (lv_at hl 5 rfl) ?_
  refine lv_iload hx hb d_la_law_442 (lv_at hl 1 rfl) ?_
  refine lv_iconst (v := nI 1) hx hb d_la_law_444 (by decide) ?_
  refine lv_iadd hx hb d_la_law_445 ?_
  refine g_topi (y := nI (i + 1)) (nI_add i 1) ?_
  refine va_sld hx hb hXs hbl hbA hG.2.2.1 (vp_in_nI (by omega) (by omega)) d_la_law_446 ?_
  refine g_topi (congrArg xs (nI_clamp (show (i + 1) < 2 ^ 31 by omega))) ?_
  refine g_wi hG (g_runV (As := [.int (xs (i + 1))]) (rest := []) S lk_la_109 k_mo_seed (c_mo_seed l Z G1 H.size mo hQ1 (xs (i + 1))) ⟨rfl, rfl⟩ ⟨(Nat.le_of_ble_eq_true rfl), (Nat.le_of_ble_eq_true rfl)⟩ (gPwV hG.1 hE hm1 rfl) rfl hl.1 rfl (Nat.le_of_ble_eq_true rfl) d_la_law_447 ⟨(by omega), (by omega)⟩) (fun b447 G2 H locs hB hG => ?_)
  obtain ⟨M2, D2, fk2, tp2, pt2, pd2, ov2, hcl2, hQ2, ho2, ha2⟩ := j_seed hQ hA hB
  refine lv_istore (lv' := [(6, .int b447), (5, .int k435), (4, .int (nI i)), (3, .ref o), (2, .ref mo), (1, .ref x), (0, .ref b)]) hx hb d_la_law_450 hl (by decide) rfl (fun ls hl => ?_)
  refine lv_aload_n hx hb d_la_law_452 rfl (lv_at hl 4 rfl) ?_
  obtain ⟨cf, mf, ff, gf, sf, tf, bf, hP2, -⟩ := id hQ2
  refine g_reti (g_runV (As := []) (rest := []) S lk_la_87 k_mo_thrown (c_mo_thrown l Z G2 mo hP2) ⟨rfl, rfl⟩ ⟨(Nat.le_of_ble_eq_true rfl), (Nat.le_of_ble_eq_true rfl)⟩ (gPreV hG.1 hE hP2.1 rfl) rfl hl.1 rfl (Nat.le_of_ble_eq_true rfl) d_la_law_453 ⟨(by omega), (by omega)⟩) (fun r453 h453 => ?_)
  refine g_topi (y := k435) h453 ?_
  refine lv_iload hx hb d_la_law_456 (lv_at hl 1 rfl) ?_
  refine lv_icmp_eq (tgt := 463) hx hb d_la_law_458 (by decide) (fun c458 => ?_) (fun c458 => absurd c458 (not_not_intro rfl))
  refine lv_iload hx hb d_la_law_463 (lv_at hl 1 rfl) ?_
  refine lv_if_ne (tgt := 480) hx hb d_la_law_465 (by decide) (fun c465 => ?_) (fun c465 => ?_)
  · refine lv_goto (tgt := 1171) hx hb d_la_law_480 (by decide) ?_
    refine W.widen (k := K + 8) (n := N + 50) (by omega) (by omega) ?_
    exact kk _ _ _ _ _ ⟨u1, u2, u3, u4, u5, u6, u7, M2, D2, fk2, tp2, pt2, pd2, ov2, hcl2, hQ2, ho2⟩ hG (lv_sub hl [2, 3, 4, 5, 6] rfl)
  · refine lv_aload_n hx hb d_la_law_468 rfl (lv_at hl 3 rfl) ?_
    refine lv_iconst (v := nI 0) hx hb d_la_law_469 (by decide) ?_
    refine g_lald S hE.1 hG.1 ho2 0 rfl (vp_in_nI (by omega) (by omega)) d_la_law_470 ?_
    refine g_topl (congrArg ov2 (nI_clamp (show 0 < 2 ^ 31 by omega))) ?_
    refine lv_iload hx hb d_la_law_471 (lv_at hl 0 rfl) ?_
    refine lv_i2l hx hb d_la_law_473 rfl ?_
    refine W.lcmp hx hb d_la_law_474 ?_
    refine lv_if_eq (tgt := 480) hx hb d_la_law_475 (by decide) (fun c475 => ?_) (fun c475 => absurd c475 (not_not_intro ((lg_cmp_eq _ _).mpr (ha2 c465))))
    refine lv_goto (tgt := 1171) hx hb d_la_law_480 (by decide) ?_
    refine W.widen (k := K + 8) (n := N + 50) (by omega) (by omega) ?_
    exact kk _ _ _ _ _ ⟨u1, u2, u3, u4, u5, u6, u7, M2, D2, fk2, tp2, pt2, pd2, ov2, hcl2, hQ2, ho2⟩ hG (lv_sub hl [2, 3, 4, 5, 6] rfl)
set_option maxHeartbeats 600000 in
set_option maxRecDepth 100000 in
theorem st_6 {p : Program} {l : Launch} {e : Env} {s : State} {m : MethodId} {below : List Frame} {meth : Method} {c : Code} {Q : State → Prop} {Z : gZ} {b L x mo o C E i K N : Nat} {xs : Nat → Int32} {th : Int32} (F : lwF p l s m c Z b L xs) {G : gh} {H : Heap} {locs : List Loc} {ls : Array Slot} (hI : lwI Z G x mo o C E th) (hG : gS (gA (fun _ => none) s.heap.size) s.heap Z.1 cls G H locs) (hl : lv_has ls 8 [(4, .int (nI i)), (3, .ref o), (2, .ref mo), (1, .ref x), (0, .ref b)]) (hi : i + 5 ≤ L) (hKc : K + 8 ≤ room_1.cells) (hKs : N + 50 ≤ room_1.slots) (kk : ∀ (G : gh) (H : Heap) (locs : List Loc) (ls : Array Slot) (th : Int32), lwI Z G x mo o C E th → gS (gA (fun _ => none) s.heap.size) s.heap Z.1 cls G H locs → lv_has ls 8 [(4, .int (nI i)), (3, .ref o), (2, .ref mo), (1, .ref x), (0, .ref b)] → W p l e room_1 s m #[Value.ref b] below meth c H locs (K + 8) (N + 50) Q (F0 m 1171 ls [])) : W p l e room_1 s m #[Value.ref b] below meth c H locs K N Q (F0 m 483 ls []) := by
  obtain ⟨S, hl9, hE, hX, hN, hXs, hbl, hL⟩ := F
  have hx := S.1
  have hb := S.2.1
  have hbA := lw_nA hbl
  obtain ⟨u1, u2, u3, u4, u5, u6, u7, M, D, fk, tp, pt, pd, ov, hcl, hQ, ho⟩ := hI
  have hbd := moQ_bd hQ
  refine lv_aload_n hx hb d_la_law_483 rfl (lv_at hl 3 rfl) ?_
  refine lv_aload_n hx hb d_la_law_484 rfl (lv_at hl 4 rfl) ?_
  refine lv_iload hx hb d_la_law_485 (lv_at hl 0 rfl) ?_
  refine lv_iconst (v := nI 1) hx hb d_la_law_487 (by decide) ?_
  refine lv_iadd hx hb d_la_law_488 ?_
  refine g_topi (y := nI (i + 1)) (nI_add i 1) ?_
  refine va_sld hx hb hXs hbl hbA hG.2.2.1 (vp_in_nI (by omega) (by omega)) d_la_law_489 ?_
  refine g_topi (congrArg xs (nI_clamp (show (i + 1) < 2 ^ 31 by omega))) ?_
  refine lv_aload_n hx hb d_la_law_490 rfl (lv_at hl 1 rfl) ?_
  refine g_wi hG (g_runSW (As := [.ref x, .int (xs (i + 1)), .ref o]) (rest := []) S lk_la_110 k_la_seedOf (c_la_seedOf l hl9 Z G H.size x o hcl ho hbd (xs (i + 1))) ⟨rfl, rfl⟩ ⟨(Nat.le_of_ble_eq_true rfl), (Nat.le_of_ble_eq_true rfl)⟩ (gPyS hG hE hX hN) rfl hl.1 rfl (Nat.le_of_ble_eq_true rfl) d_la_law_491 ⟨(by omega), (by omega)⟩) (fun k491 G1 H locs hA hG => ?_)
  have hk1 : kX mE G G1 := by obtain ⟨_, _, h, _⟩ := hA; exact h
  have hQ1 := moQ_km hQ hk1
  obtain ⟨fm1, hm1⟩ := moQ_cell hQ1
  refine lv_istore (lv' := [(5, .int k491), (4, .int (nI i)), (3, .ref o), (2, .ref mo), (1, .ref x), (0, .ref b)]) hx hb d_la_law_494 hl (by decide) rfl (fun ls hl => ?_)
  refine lv_aload_n hx hb d_la_law_496 rfl (lv_at hl 3 rfl) ?_
  refine lv_aload_n hx hb d_la_law_497 rfl (lv_at hl 5 rfl) ?_
  refine lv_iload hx hb d_la_law_498 (lv_at hl 1 rfl) ?_
  refine lv_iconst (v := nI 1) hx hb d_la_law_500 (by decide) ?_
  refine lv_iadd hx hb d_la_law_501 ?_
  refine g_topi (y := nI (i + 1)) (nI_add i 1) ?_
  refine va_sld hx hb hXs hbl hbA hG.2.2.1 (vp_in_nI (by omega) (by omega)) d_la_law_502 ?_
  refine g_topi (congrArg xs (nI_clamp (show (i + 1) < 2 ^ 31 by omega))) ?_
  refine g_wi hG (g_runV (As := [.int (xs (i + 1))]) (rest := []) S lk_la_112 k_mo_seedOf (c_mo_seedOf l Z G1 H.size mo hQ1 (xs (i + 1))) ⟨rfl, rfl⟩ ⟨(Nat.le_of_ble_eq_true rfl), (Nat.le_of_ble_eq_true rfl)⟩ (gPwV hG.1 hE hm1 rfl) rfl hl.1 rfl (Nat.le_of_ble_eq_true rfl) d_la_law_503 ⟨(by omega), (by omega)⟩) (fun b503 G2 H locs hB hG => ?_)
  obtain ⟨M2, D2, fk2, tp2, pt2, pd2, ov2, hcl2, hQ2, ho2, ha2⟩ := j_seedOf hQ hA hB
  refine lv_istore (lv' := [(6, .int b503), (5, .int k491), (4, .int (nI i)), (3, .ref o), (2, .ref mo), (1, .ref x), (0, .ref b)]) hx hb d_la_law_506 hl (by decide) rfl (fun ls hl => ?_)
  refine lv_aload_n hx hb d_la_law_508 rfl (lv_at hl 4 rfl) ?_
  obtain ⟨cf, mf, ff, gf, sf, tf, bf, hP2, -⟩ := id hQ2
  refine g_reti (g_runV (As := []) (rest := []) S lk_la_87 k_mo_thrown (c_mo_thrown l Z G2 mo hP2) ⟨rfl, rfl⟩ ⟨(Nat.le_of_ble_eq_true rfl), (Nat.le_of_ble_eq_true rfl)⟩ (gPreV hG.1 hE hP2.1 rfl) rfl hl.1 rfl (Nat.le_of_ble_eq_true rfl) d_la_law_509 ⟨(by omega), (by omega)⟩) (fun r509 h509 => ?_)
  refine g_topi (y := k491) h509 ?_
  refine lv_iload hx hb d_la_law_512 (lv_at hl 1 rfl) ?_
  refine lv_icmp_eq (tgt := 519) hx hb d_la_law_514 (by decide) (fun c514 => ?_) (fun c514 => absurd c514 (not_not_intro rfl))
  refine lv_iload hx hb d_la_law_519 (lv_at hl 1 rfl) ?_
  refine lv_if_ne (tgt := 536) hx hb d_la_law_521 (by decide) (fun c521 => ?_) (fun c521 => ?_)
  · refine lv_goto (tgt := 1171) hx hb d_la_law_536 (by decide) ?_
    refine W.widen (k := K + 8) (n := N + 50) (by omega) (by omega) ?_
    exact kk _ _ _ _ _ ⟨u1, u2, u3, u4, u5, u6, u7, M2, D2, fk2, tp2, pt2, pd2, ov2, hcl2, hQ2, ho2⟩ hG (lv_sub hl [2, 3, 4, 5, 6] rfl)
  · refine lv_aload_n hx hb d_la_law_524 rfl (lv_at hl 3 rfl) ?_
    refine lv_iconst (v := nI 0) hx hb d_la_law_525 (by decide) ?_
    refine g_lald S hE.1 hG.1 ho2 0 rfl (vp_in_nI (by omega) (by omega)) d_la_law_526 ?_
    refine g_topl (congrArg ov2 (nI_clamp (show 0 < 2 ^ 31 by omega))) ?_
    refine lv_iload hx hb d_la_law_527 (lv_at hl 0 rfl) ?_
    refine lv_i2l hx hb d_la_law_529 rfl ?_
    refine W.lcmp hx hb d_la_law_530 ?_
    refine lv_if_eq (tgt := 536) hx hb d_la_law_531 (by decide) (fun c531 => ?_) (fun c531 => absurd c531 (not_not_intro ((lg_cmp_eq _ _).mpr (ha2 c521))))
    refine lv_goto (tgt := 1171) hx hb d_la_law_536 (by decide) ?_
    refine W.widen (k := K + 8) (n := N + 50) (by omega) (by omega) ?_
    exact kk _ _ _ _ _ ⟨u1, u2, u3, u4, u5, u6, u7, M2, D2, fk2, tp2, pt2, pd2, ov2, hcl2, hQ2, ho2⟩ hG (lv_sub hl [2, 3, 4, 5, 6] rfl)
set_option maxHeartbeats 600000 in
set_option maxRecDepth 100000 in
theorem st_7 {p : Program} {l : Launch} {e : Env} {s : State} {m : MethodId} {below : List Frame} {meth : Method} {c : Code} {Q : State → Prop} {Z : gZ} {b L x mo o C E i K N : Nat} {xs : Nat → Int32} {th : Int32} (F : lwF p l s m c Z b L xs) {G : gh} {H : Heap} {locs : List Loc} {ls : Array Slot} (hI : lwI Z G x mo o C E th) (hG : gS (gA (fun _ => none) s.heap.size) s.heap Z.1 cls G H locs) (hl : lv_has ls 8 [(4, .int (nI i)), (3, .ref o), (2, .ref mo), (1, .ref x), (0, .ref b)]) (hi : i + 5 ≤ L) (hKc : K + 8 ≤ room_1.cells) (hKs : N + 50 ≤ room_1.slots) (kk : ∀ (G : gh) (H : Heap) (locs : List Loc) (ls : Array Slot) (th : Int32), lwI Z G x mo o C E th → gS (gA (fun _ => none) s.heap.size) s.heap Z.1 cls G H locs → lv_has ls 8 [(4, .int (nI i)), (3, .ref o), (2, .ref mo), (1, .ref x), (0, .ref b)] → W p l e room_1 s m #[Value.ref b] below meth c H locs (K + 8) (N + 50) Q (F0 m 1171 ls [])) : W p l e room_1 s m #[Value.ref b] below meth c H locs K N Q (F0 m 539 ls []) := by
  obtain ⟨S, hl9, hE, hX, hN, hXs, hbl, hL⟩ := F
  have hx := S.1
  have hb := S.2.1
  have hbA := lw_nA hbl
  obtain ⟨u1, u2, u3, u4, u5, u6, u7, M, D, fk, tp, pt, pd, ov, hcl, hQ, ho⟩ := hI
  have hbd := moQ_bd hQ
  refine lv_aload_n hx hb d_la_law_539 rfl (lv_at hl 3 rfl) ?_
  refine lv_aload_n hx hb d_la_law_540 rfl (lv_at hl 4 rfl) ?_
  refine lv_iload hx hb d_la_law_541 (lv_at hl 0 rfl) ?_
  refine lv_iconst (v := nI 1) hx hb d_la_law_543 (by decide) ?_
  refine lv_iadd hx hb d_la_law_544 ?_
  refine g_topi (y := nI (i + 1)) (nI_add i 1) ?_
  refine va_sld hx hb hXs hbl hbA hG.2.2.1 (vp_in_nI (by omega) (by omega)) d_la_law_545 ?_
  refine g_topi (congrArg xs (nI_clamp (show (i + 1) < 2 ^ 31 by omega))) ?_
  refine lv_aload_n hx hb d_la_law_546 rfl (lv_at hl 4 rfl) ?_
  refine lv_iload hx hb d_la_law_547 (lv_at hl 0 rfl) ?_
  refine lv_iconst (v := nI 2) hx hb d_la_law_549 (by decide) ?_
  refine lv_iadd hx hb d_la_law_550 ?_
  refine g_topi (y := nI (i + 2)) (nI_add i 2) ?_
  refine va_sld hx hb hXs hbl hbA hG.2.2.1 (vp_in_nI (by omega) (by omega)) d_la_law_551 ?_
  refine g_topi (congrArg xs (nI_clamp (show (i + 2) < 2 ^ 31 by omega))) ?_
  refine lv_aload_n hx hb d_la_law_552 rfl (lv_at hl 4 rfl) ?_
  refine lv_iload hx hb d_la_law_553 (lv_at hl 0 rfl) ?_
  refine lv_iconst (v := nI 3) hx hb d_la_law_555 (by decide) ?_
  refine lv_iadd hx hb d_la_law_556 ?_
  refine g_topi (y := nI (i + 3)) (nI_add i 3) ?_
  refine va_sld hx hb hXs hbl hbA hG.2.2.1 (vp_in_nI (by omega) (by omega)) d_la_law_557 ?_
  refine g_topi (congrArg xs (nI_clamp (show (i + 3) < 2 ^ 31 by omega))) ?_
  refine lv_aload_n hx hb d_la_law_558 rfl (lv_at hl 1 rfl) ?_
  refine g_wi hG (g_runSW (As := [.ref x, .int (xs (i + 1)), .int (xs (i + 2)), .int (xs (i + 3)), .ref o]) (rest := []) S lk_la_113 k_la_bit (c_la_bit l hl9 Z G H.size x o hcl ho hbd (xs (i + 1)) (xs (i + 2)) (xs (i + 3))) ⟨rfl, rfl⟩ ⟨(Nat.le_of_ble_eq_true rfl), (Nat.le_of_ble_eq_true rfl)⟩ (gPyS hG hE hX hN) rfl hl.1 rfl (Nat.le_of_ble_eq_true rfl) d_la_law_559 ⟨(by omega), (by omega)⟩) (fun k559 G1 H locs hA hG => ?_)
  have hk1 : kX mE G G1 := by obtain ⟨_, _, h, _⟩ := hA; exact h
  have hQ1 := moQ_km hQ hk1
  obtain ⟨fm1, hm1⟩ := moQ_cell hQ1
  refine lv_istore (lv' := [(5, .int k559), (4, .int (nI i)), (3, .ref o), (2, .ref mo), (1, .ref x), (0, .ref b)]) hx hb d_la_law_562 hl (by decide) rfl (fun ls hl => ?_)
  refine lv_aload_n hx hb d_la_law_564 rfl (lv_at hl 3 rfl) ?_
  refine lv_aload_n hx hb d_la_law_565 rfl (lv_at hl 5 rfl) ?_
  refine lv_iload hx hb d_la_law_566 (lv_at hl 1 rfl) ?_
  refine lv_iconst (v := nI 1) hx hb d_la_law_568 (by decide) ?_
  refine lv_iadd hx hb d_la_law_569 ?_
  refine g_topi (y := nI (i + 1)) (nI_add i 1) ?_
  refine va_sld hx hb hXs hbl hbA hG.2.2.1 (vp_in_nI (by omega) (by omega)) d_la_law_570 ?_
  refine g_topi (congrArg xs (nI_clamp (show (i + 1) < 2 ^ 31 by omega))) ?_
  refine lv_aload_n hx hb d_la_law_571 rfl (lv_at hl 5 rfl) ?_
  refine lv_iload hx hb d_la_law_572 (lv_at hl 1 rfl) ?_
  refine lv_iconst (v := nI 2) hx hb d_la_law_574 (by decide) ?_
  refine lv_iadd hx hb d_la_law_575 ?_
  refine g_topi (y := nI (i + 2)) (nI_add i 2) ?_
  refine va_sld hx hb hXs hbl hbA hG.2.2.1 (vp_in_nI (by omega) (by omega)) d_la_law_576 ?_
  refine g_topi (congrArg xs (nI_clamp (show (i + 2) < 2 ^ 31 by omega))) ?_
  refine lv_aload_n hx hb d_la_law_577 rfl (lv_at hl 5 rfl) ?_
  refine lv_iload hx hb d_la_law_578 (lv_at hl 1 rfl) ?_
  refine lv_iconst (v := nI 3) hx hb d_la_law_580 (by decide) ?_
  refine lv_iadd hx hb d_la_law_581 ?_
  refine g_topi (y := nI (i + 3)) (nI_add i 3) ?_
  refine va_sld hx hb hXs hbl hbA hG.2.2.1 (vp_in_nI (by omega) (by omega)) d_la_law_582 ?_
  refine g_topi (congrArg xs (nI_clamp (show (i + 3) < 2 ^ 31 by omega))) ?_
  refine g_wi hG (g_runV (As := [.int (xs (i + 1)), .int (xs (i + 2)), .int (xs (i + 3))]) (rest := []) S lk_la_116 k_mo_bit (c_mo_bit l Z G1 H.size mo hQ1 (xs (i + 1)) (xs (i + 2)) (xs (i + 3))) ⟨rfl, rfl⟩ ⟨(Nat.le_of_ble_eq_true rfl), (Nat.le_of_ble_eq_true rfl)⟩ (gPwV hG.1 hE hm1 rfl) rfl hl.1 rfl (Nat.le_of_ble_eq_true rfl) d_la_law_583 ⟨(by omega), (by omega)⟩) (fun b583 G2 H locs hB hG => ?_)
  obtain ⟨M2, D2, fk2, tp2, pt2, pd2, ov2, hcl2, hQ2, ho2, ha2⟩ := j_bit hQ hA hB
  refine lv_istore (lv' := [(6, .int b583), (5, .int k559), (4, .int (nI i)), (3, .ref o), (2, .ref mo), (1, .ref x), (0, .ref b)]) hx hb d_la_law_586 hl (by decide) rfl (fun ls hl => ?_)
  refine lv_aload_n hx hb d_la_law_588 rfl (lv_at hl 4 rfl) ?_
  obtain ⟨cf, mf, ff, gf, sf, tf, bf, hP2, -⟩ := id hQ2
  refine g_reti (g_runV (As := []) (rest := []) S lk_la_87 k_mo_thrown (c_mo_thrown l Z G2 mo hP2) ⟨rfl, rfl⟩ ⟨(Nat.le_of_ble_eq_true rfl), (Nat.le_of_ble_eq_true rfl)⟩ (gPreV hG.1 hE hP2.1 rfl) rfl hl.1 rfl (Nat.le_of_ble_eq_true rfl) d_la_law_589 ⟨(by omega), (by omega)⟩) (fun r589 h589 => ?_)
  refine g_topi (y := k559) h589 ?_
  refine lv_iload hx hb d_la_law_592 (lv_at hl 1 rfl) ?_
  refine lv_icmp_eq (tgt := 599) hx hb d_la_law_594 (by decide) (fun c594 => ?_) (fun c594 => absurd c594 (not_not_intro rfl))
  refine lv_iload hx hb d_la_law_599 (lv_at hl 1 rfl) ?_
  refine lv_if_ne (tgt := 616) hx hb d_la_law_601 (by decide) (fun c601 => ?_) (fun c601 => ?_)
  · refine lv_goto (tgt := 1171) hx hb d_la_law_616 (by decide) ?_
    refine W.widen (k := K + 8) (n := N + 50) (by omega) (by omega) ?_
    exact kk _ _ _ _ _ ⟨u1, u2, u3, u4, u5, u6, u7, M2, D2, fk2, tp2, pt2, pd2, ov2, hcl2, hQ2, ho2⟩ hG (lv_sub hl [2, 3, 4, 5, 6] rfl)
  · refine lv_aload_n hx hb d_la_law_604 rfl (lv_at hl 3 rfl) ?_
    refine lv_iconst (v := nI 0) hx hb d_la_law_605 (by decide) ?_
    refine g_lald S hE.1 hG.1 ho2 0 rfl (vp_in_nI (by omega) (by omega)) d_la_law_606 ?_
    refine g_topl (congrArg ov2 (nI_clamp (show 0 < 2 ^ 31 by omega))) ?_
    refine lv_iload hx hb d_la_law_607 (lv_at hl 0 rfl) ?_
    refine lv_i2l hx hb d_la_law_609 rfl ?_
    refine W.lcmp hx hb d_la_law_610 ?_
    refine lv_if_eq (tgt := 616) hx hb d_la_law_611 (by decide) (fun c611 => ?_) (fun c611 => absurd c611 (not_not_intro ((lg_cmp_eq _ _).mpr (ha2 c601))))
    refine lv_goto (tgt := 1171) hx hb d_la_law_616 (by decide) ?_
    refine W.widen (k := K + 8) (n := N + 50) (by omega) (by omega) ?_
    exact kk _ _ _ _ _ ⟨u1, u2, u3, u4, u5, u6, u7, M2, D2, fk2, tp2, pt2, pd2, ov2, hcl2, hQ2, ho2⟩ hG (lv_sub hl [2, 3, 4, 5, 6] rfl)
set_option maxHeartbeats 600000 in
set_option maxRecDepth 100000 in
theorem st_8 {p : Program} {l : Launch} {e : Env} {s : State} {m : MethodId} {below : List Frame} {meth : Method} {c : Code} {Q : State → Prop} {Z : gZ} {b L x mo o C E i K N : Nat} {xs : Nat → Int32} {th : Int32} (F : lwF p l s m c Z b L xs) {G : gh} {H : Heap} {locs : List Loc} {ls : Array Slot} (hI : lwI Z G x mo o C E th) (hG : gS (gA (fun _ => none) s.heap.size) s.heap Z.1 cls G H locs) (hl : lv_has ls 8 [(4, .int (nI i)), (3, .ref o), (2, .ref mo), (1, .ref x), (0, .ref b)]) (hi : i + 5 ≤ L) (hKc : K + 8 ≤ room_1.cells) (hKs : N + 50 ≤ room_1.slots) (kk : ∀ (G : gh) (H : Heap) (locs : List Loc) (ls : Array Slot) (th : Int32), lwI Z G x mo o C E th → gS (gA (fun _ => none) s.heap.size) s.heap Z.1 cls G H locs → lv_has ls 8 [(4, .int (nI i)), (3, .ref o), (2, .ref mo), (1, .ref x), (0, .ref b)] → W p l e room_1 s m #[Value.ref b] below meth c H locs (K + 8) (N + 50) Q (F0 m 1171 ls [])) : W p l e room_1 s m #[Value.ref b] below meth c H locs K N Q (F0 m 619 ls []) := by
  obtain ⟨S, hl9, hE, hX, hN, hXs, hbl, hL⟩ := F
  have hx := S.1
  have hb := S.2.1
  have hbA := lw_nA hbl
  obtain ⟨u1, u2, u3, u4, u5, u6, u7, M, D, fk, tp, pt, pd, ov, hcl, hQ, ho⟩ := hI
  have hbd := moQ_bd hQ
  refine lv_aload_n hx hb d_la_law_619 rfl (lv_at hl 3 rfl) ?_
  refine lv_aload_n hx hb d_la_law_620 rfl (lv_at hl 4 rfl) ?_
  refine lv_iload hx hb d_la_law_621 (lv_at hl 0 rfl) ?_
  refine lv_iconst (v := nI 1) hx hb d_la_law_623 (by decide) ?_
  refine lv_iadd hx hb d_la_law_624 ?_
  refine g_topi (y := nI (i + 1)) (nI_add i 1) ?_
  refine va_sld hx hb hXs hbl hbA hG.2.2.1 (vp_in_nI (by omega) (by omega)) d_la_law_625 ?_
  refine g_topi (congrArg xs (nI_clamp (show (i + 1) < 2 ^ 31 by omega))) ?_
  refine lv_aload_n hx hb d_la_law_626 rfl (lv_at hl 4 rfl) ?_
  refine lv_iload hx hb d_la_law_627 (lv_at hl 0 rfl) ?_
  refine lv_iconst (v := nI 2) hx hb d_la_law_629 (by decide) ?_
  refine lv_iadd hx hb d_la_law_630 ?_
  refine g_topi (y := nI (i + 2)) (nI_add i 2) ?_
  refine va_sld hx hb hXs hbl hbA hG.2.2.1 (vp_in_nI (by omega) (by omega)) d_la_law_631 ?_
  refine g_topi (congrArg xs (nI_clamp (show (i + 2) < 2 ^ 31 by omega))) ?_
  refine lv_aload_n hx hb d_la_law_632 rfl (lv_at hl 1 rfl) ?_
  refine g_wi hG (g_runSW (As := [.ref x, .int (xs (i + 1)), .int (xs (i + 2)), .ref o]) (rest := []) S lk_la_117 k_la_found (c_la_found l hl9 Z G H.size x o hcl ho hbd (xs (i + 1)) (xs (i + 2))) ⟨rfl, rfl⟩ ⟨(Nat.le_of_ble_eq_true rfl), (Nat.le_of_ble_eq_true rfl)⟩ (gPyS hG hE hX hN) rfl hl.1 rfl (Nat.le_of_ble_eq_true rfl) d_la_law_633 ⟨(by omega), (by omega)⟩) (fun k633 G1 H locs hA hG => ?_)
  have hk1 : kX mE G G1 := by obtain ⟨_, _, h, _⟩ := hA; exact h
  have hQ1 := moQ_km hQ hk1
  obtain ⟨fm1, hm1⟩ := moQ_cell hQ1
  refine lv_istore (lv' := [(5, .int k633), (4, .int (nI i)), (3, .ref o), (2, .ref mo), (1, .ref x), (0, .ref b)]) hx hb d_la_law_636 hl (by decide) rfl (fun ls hl => ?_)
  refine lv_aload_n hx hb d_la_law_638 rfl (lv_at hl 3 rfl) ?_
  refine lv_aload_n hx hb d_la_law_639 rfl (lv_at hl 5 rfl) ?_
  refine lv_iload hx hb d_la_law_640 (lv_at hl 1 rfl) ?_
  refine lv_iconst (v := nI 1) hx hb d_la_law_642 (by decide) ?_
  refine lv_iadd hx hb d_la_law_643 ?_
  refine g_topi (y := nI (i + 1)) (nI_add i 1) ?_
  refine va_sld hx hb hXs hbl hbA hG.2.2.1 (vp_in_nI (by omega) (by omega)) d_la_law_644 ?_
  refine g_topi (congrArg xs (nI_clamp (show (i + 1) < 2 ^ 31 by omega))) ?_
  refine lv_aload_n hx hb d_la_law_645 rfl (lv_at hl 5 rfl) ?_
  refine lv_iload hx hb d_la_law_646 (lv_at hl 1 rfl) ?_
  refine lv_iconst (v := nI 2) hx hb d_la_law_648 (by decide) ?_
  refine lv_iadd hx hb d_la_law_649 ?_
  refine g_topi (y := nI (i + 2)) (nI_add i 2) ?_
  refine va_sld hx hb hXs hbl hbA hG.2.2.1 (vp_in_nI (by omega) (by omega)) d_la_law_650 ?_
  refine g_topi (congrArg xs (nI_clamp (show (i + 2) < 2 ^ 31 by omega))) ?_
  refine g_wi hG (g_runV (As := [.int (xs (i + 1)), .int (xs (i + 2))]) (rest := []) S lk_la_120 k_mo_found (c_mo_found l Z G1 H.size mo hQ1 (xs (i + 1)) (xs (i + 2))) ⟨rfl, rfl⟩ ⟨(Nat.le_of_ble_eq_true rfl), (Nat.le_of_ble_eq_true rfl)⟩ (gPwV hG.1 hE hm1 rfl) rfl hl.1 rfl (Nat.le_of_ble_eq_true rfl) d_la_law_651 ⟨(by omega), (by omega)⟩) (fun b651 G2 H locs hB hG => ?_)
  obtain ⟨M2, D2, fk2, tp2, pt2, pd2, ov2, hcl2, hQ2, ho2, ha2⟩ := j_found hQ hA hB
  refine lv_istore (lv' := [(6, .int b651), (5, .int k633), (4, .int (nI i)), (3, .ref o), (2, .ref mo), (1, .ref x), (0, .ref b)]) hx hb d_la_law_654 hl (by decide) rfl (fun ls hl => ?_)
  refine lv_aload_n hx hb d_la_law_656 rfl (lv_at hl 4 rfl) ?_
  obtain ⟨cf, mf, ff, gf, sf, tf, bf, hP2, -⟩ := id hQ2
  refine g_reti (g_runV (As := []) (rest := []) S lk_la_87 k_mo_thrown (c_mo_thrown l Z G2 mo hP2) ⟨rfl, rfl⟩ ⟨(Nat.le_of_ble_eq_true rfl), (Nat.le_of_ble_eq_true rfl)⟩ (gPreV hG.1 hE hP2.1 rfl) rfl hl.1 rfl (Nat.le_of_ble_eq_true rfl) d_la_law_657 ⟨(by omega), (by omega)⟩) (fun r657 h657 => ?_)
  refine g_topi (y := k633) h657 ?_
  refine lv_iload hx hb d_la_law_660 (lv_at hl 1 rfl) ?_
  refine lv_icmp_eq (tgt := 667) hx hb d_la_law_662 (by decide) (fun c662 => ?_) (fun c662 => absurd c662 (not_not_intro rfl))
  refine lv_iload hx hb d_la_law_667 (lv_at hl 1 rfl) ?_
  refine lv_if_ne (tgt := 691) hx hb d_la_law_669 (by decide) (fun c669 => ?_) (fun c669 => ?_)
  · refine lv_goto (tgt := 1171) hx hb d_la_law_691 (by decide) ?_
    refine W.widen (k := K + 8) (n := N + 50) (by omega) (by omega) ?_
    exact kk _ _ _ _ _ ⟨u1, u2, u3, u4, u5, u6, u7, M2, D2, fk2, tp2, pt2, pd2, ov2, hcl2, hQ2, ho2⟩ hG (lv_sub hl [2, 3, 4, 5, 6] rfl)
  · refine lv_aload_n hx hb d_la_law_672 rfl (lv_at hl 3 rfl) ?_
    refine lv_iconst (v := nI 0) hx hb d_la_law_673 (by decide) ?_
    refine g_lald S hE.1 hG.1 ho2 0 rfl (vp_in_nI (by omega) (by omega)) d_la_law_674 ?_
    refine g_topl (congrArg ov2 (nI_clamp (show 0 < 2 ^ 31 by omega))) ?_
    refine lv_iload hx hb d_la_law_675 (lv_at hl 0 rfl) ?_
    refine lv_if_eq (tgt := 684) hx hb d_la_law_677 (by decide) (fun c677 => ?_) (fun c677 => ?_)
    · refine lv_lconst (v := 0) hx hb d_la_law_684 (by decide) ?_
      refine W.lcmp hx hb d_la_law_685 ?_
      refine lv_if_eq (tgt := 691) hx hb d_la_law_686 (by decide) (fun c686 => ?_) (fun c686 => absurd c686 (not_not_intro ((lg_cmp_eq _ _).mpr ((ha2 c669).trans (zl_0 c677)))))
      refine lv_goto (tgt := 1171) hx hb d_la_law_691 (by decide) ?_
      refine W.widen (k := K + 8) (n := N + 50) (by omega) (by omega) ?_
      exact kk _ _ _ _ _ ⟨u1, u2, u3, u4, u5, u6, u7, M2, D2, fk2, tp2, pt2, pd2, ov2, hcl2, hQ2, ho2⟩ hG (lv_sub hl [2, 3, 4, 5, 6] rfl)
    · refine lv_lconst (v := 1) hx hb d_la_law_680 (by decide) ?_
      refine lv_goto (tgt := 685) hx hb d_la_law_681 (by decide) ?_
      refine W.lcmp hx hb d_la_law_685 ?_
      refine lv_if_eq (tgt := 691) hx hb d_la_law_686 (by decide) (fun c686 => ?_) (fun c686 => absurd c686 (not_not_intro ((lg_cmp_eq _ _).mpr ((ha2 c669).trans (zl_1 c677)))))
      refine lv_goto (tgt := 1171) hx hb d_la_law_691 (by decide) ?_
      refine W.widen (k := K + 8) (n := N + 50) (by omega) (by omega) ?_
      exact kk _ _ _ _ _ ⟨u1, u2, u3, u4, u5, u6, u7, M2, D2, fk2, tp2, pt2, pd2, ov2, hcl2, hQ2, ho2⟩ hG (lv_sub hl [2, 3, 4, 5, 6] rfl)
set_option maxHeartbeats 600000 in
set_option maxRecDepth 100000 in
theorem st_9 {p : Program} {l : Launch} {e : Env} {s : State} {m : MethodId} {below : List Frame} {meth : Method} {c : Code} {Q : State → Prop} {Z : gZ} {b L x mo o C E i K N : Nat} {xs : Nat → Int32} {th : Int32} (F : lwF p l s m c Z b L xs) {G : gh} {H : Heap} {locs : List Loc} {ls : Array Slot} (hI : lwI Z G x mo o C E th) (hG : gS (gA (fun _ => none) s.heap.size) s.heap Z.1 cls G H locs) (hl : lv_has ls 8 [(4, .int (nI i)), (3, .ref o), (2, .ref mo), (1, .ref x), (0, .ref b)]) (hi : i + 5 ≤ L) (hKc : K + 8 ≤ room_1.cells) (hKs : N + 50 ≤ room_1.slots) (kk : ∀ (G : gh) (H : Heap) (locs : List Loc) (ls : Array Slot) (th : Int32), lwI Z G x mo o C E th → gS (gA (fun _ => none) s.heap.size) s.heap Z.1 cls G H locs → lv_has ls 8 [(4, .int (nI i)), (3, .ref o), (2, .ref mo), (1, .ref x), (0, .ref b)] → W p l e room_1 s m #[Value.ref b] below meth c H locs (K + 8) (N + 50) Q (F0 m 1171 ls [])) : W p l e room_1 s m #[Value.ref b] below meth c H locs K N Q (F0 m 694 ls []) := by
  obtain ⟨S, hl9, hE, hX, hN, hXs, hbl, hL⟩ := F
  have hx := S.1
  have hb := S.2.1
  have hbA := lw_nA hbl
  obtain ⟨u1, u2, u3, u4, u5, u6, u7, M, D, fk, tp, pt, pd, ov, hcl, hQ, ho⟩ := hI
  have hbd := moQ_bd hQ
  refine lv_aload_n hx hb d_la_law_694 rfl (lv_at hl 3 rfl) ?_
  obtain ⟨sh, ma, ro, pa, rw, hc⟩ := id hcl
  obtain ⟨fx, fs, fm, fro, fpa, hpt, hinj⟩ := id hc
  refine g_wi hG (g_runV (As := []) (rest := []) S lk_la_121 k_ps_drop (c_ps_drop l Z G H.size x fx fpa hpt hinj) ⟨rfl, rfl⟩ ⟨(Nat.le_of_ble_eq_true rfl), (Nat.le_of_ble_eq_true rfl)⟩ (gPwV hG.1 hE fx rfl) rfl hl.1 rfl (Nat.le_of_ble_eq_true rfl) d_la_law_695 ⟨(by omega), (by omega)⟩) (fun k695 G1 H locs hA hG => ?_)
  obtain ⟨hcl1, hk1⟩ : clQ Z G1 x C E M D fk tp pt (drS pt 24 pd) ∧ kX noC G G1 := by rw [hA.1]; exact ⟨⟨_, _, _, _, _, (clP_pat hc _).1⟩, (clP_pat hc _).2⟩
  have hQ1 := moQ_km hQ (hk1.mono (fun _ h => Or.inl h : ∀ e, mE e → noC e))
  obtain ⟨fm1, hm1⟩ := moQ_cell hQ1
  refine lv_aload_n hx hb d_la_law_698 rfl (lv_at hl 2 rfl) ?_
  refine g_wi hG (g_runV (As := []) (rest := [.int k695]) S lk_la_124 k_mo_drop (c_mo_drop l Z G1 H.size mo hQ1 ) ⟨rfl, rfl⟩ ⟨(Nat.le_of_ble_eq_true rfl), (Nat.le_of_ble_eq_true rfl)⟩ (gPwV hG.1 hE hm1 rfl) rfl hl.1 rfl (Nat.le_of_ble_eq_true rfl) d_la_law_699 ⟨(by omega), (by omega)⟩) (fun b699 G2 H locs hB hG => ?_)
  obtain ⟨M2, D2, fk2, tp2, pt2, pd2, ov2, hcl2, hQ2, ho2, ha2⟩ := j_drop hQ hcl1 hk1 ho hB
  refine lv_icmp_eq (tgt := 1171) hx hb d_la_law_702 (by decide) (fun c702 => ?_) (fun c702 => absurd c702 (not_not_intro (hA.2.trans hB.2.2.symm)))
  refine W.widen (k := K + 8) (n := N + 50) (by omega) (by omega) ?_
  exact kk _ _ _ _ _ ⟨u1, u2, u3, u4, u5, u6, u7, M2, D2, fk2, tp2, pt2, pd2, ov2, hcl2, hQ2, ho2⟩ hG (lv_sub hl [0, 1, 2, 3, 4] rfl)
set_option maxHeartbeats 600000 in
set_option maxRecDepth 100000 in
theorem st_10 {p : Program} {l : Launch} {e : Env} {s : State} {m : MethodId} {below : List Frame} {meth : Method} {c : Code} {Q : State → Prop} {Z : gZ} {b L x mo o C E i K N : Nat} {xs : Nat → Int32} {th : Int32} (F : lwF p l s m c Z b L xs) {G : gh} {H : Heap} {locs : List Loc} {ls : Array Slot} (hI : lwI Z G x mo o C E th) (hG : gS (gA (fun _ => none) s.heap.size) s.heap Z.1 cls G H locs) (hl : lv_has ls 8 [(4, .int (nI i)), (3, .ref o), (2, .ref mo), (1, .ref x), (0, .ref b)]) (hi : i + 5 ≤ L) (hKc : K + 8 ≤ room_1.cells) (hKs : N + 50 ≤ room_1.slots) (kk : ∀ (G : gh) (H : Heap) (locs : List Loc) (ls : Array Slot) (th : Int32), lwI Z G x mo o C E th → gS (gA (fun _ => none) s.heap.size) s.heap Z.1 cls G H locs → lv_has ls 8 [(4, .int (nI i)), (3, .ref o), (2, .ref mo), (1, .ref x), (0, .ref b)] → W p l e room_1 s m #[Value.ref b] below meth c H locs (K + 8) (N + 50) Q (F0 m 1171 ls [])) : W p l e room_1 s m #[Value.ref b] below meth c H locs K N Q (F0 m 707 ls []) := by
  obtain ⟨S, hl9, hE, hX, hN, hXs, hbl, hL⟩ := F
  have hx := S.1
  have hb := S.2.1
  have hbA := lw_nA hbl
  obtain ⟨u1, u2, u3, u4, u5, u6, u7, M, D, fk, tp, pt, pd, ov, hcl, hQ, ho⟩ := hI
  have hbd := moQ_bd hQ
  refine lv_aload_n hx hb d_la_law_707 rfl (lv_at hl 3 rfl) ?_
  refine lv_aload_n hx hb d_la_law_708 rfl (lv_at hl 4 rfl) ?_
  refine lv_iload hx hb d_la_law_709 (lv_at hl 0 rfl) ?_
  refine lv_iconst (v := nI 1) hx hb d_la_law_711 (by decide) ?_
  refine lv_iadd hx hb d_la_law_712 ?_
  refine g_topi (y := nI (i + 1)) (nI_add i 1) ?_
  refine va_sld hx hb hXs hbl hbA hG.2.2.1 (vp_in_nI (by omega) (by omega)) d_la_law_713 ?_
  refine g_topi (congrArg xs (nI_clamp (show (i + 1) < 2 ^ 31 by omega))) ?_
  refine lv_aload_n hx hb d_la_law_714 rfl (lv_at hl 1 rfl) ?_
  refine g_wi hG (g_runSW (As := [.ref x, .int (xs (i + 1)), .ref o]) (rest := []) S lk_la_125 k_la_finders (c_la_finders l hl9 Z G H.size x o hcl ho hbd (xs (i + 1))) ⟨rfl, rfl⟩ ⟨(Nat.le_of_ble_eq_true rfl), (Nat.le_of_ble_eq_true rfl)⟩ (gPyS hG hE hX hN) rfl hl.1 rfl (Nat.le_of_ble_eq_true rfl) d_la_law_715 ⟨(by omega), (by omega)⟩) (fun k715 G1 H locs hA hG => ?_)
  have hk1 : kX mE G G1 := by obtain ⟨_, _, h, _⟩ := hA; exact h
  have hQ1 := moQ_km hQ hk1
  obtain ⟨fm1, hm1⟩ := moQ_cell hQ1
  refine lv_istore (lv' := [(5, .int k715), (4, .int (nI i)), (3, .ref o), (2, .ref mo), (1, .ref x), (0, .ref b)]) hx hb d_la_law_718 hl (by decide) rfl (fun ls hl => ?_)
  refine lv_aload_n hx hb d_la_law_720 rfl (lv_at hl 3 rfl) ?_
  refine lv_aload_n hx hb d_la_law_721 rfl (lv_at hl 5 rfl) ?_
  refine lv_iload hx hb d_la_law_722 (lv_at hl 1 rfl) ?_
  refine lv_iconst (v := nI 1) hx hb d_la_law_724 (by decide) ?_
  refine lv_iadd hx hb d_la_law_725 ?_
  refine g_topi (y := nI (i + 1)) (nI_add i 1) ?_
  refine va_sld hx hb hXs hbl hbA hG.2.2.1 (vp_in_nI (by omega) (by omega)) d_la_law_726 ?_
  refine g_topi (congrArg xs (nI_clamp (show (i + 1) < 2 ^ 31 by omega))) ?_
  refine g_wi hG (g_runV (As := [.int (xs (i + 1))]) (rest := []) S lk_la_127 k_mo_finders (c_mo_finders l Z G1 H.size mo hQ1 (xs (i + 1))) ⟨rfl, rfl⟩ ⟨(Nat.le_of_ble_eq_true rfl), (Nat.le_of_ble_eq_true rfl)⟩ (gPwV hG.1 hE hm1 rfl) rfl hl.1 rfl (Nat.le_of_ble_eq_true rfl) d_la_law_727 ⟨(by omega), (by omega)⟩) (fun b727 G2 H locs hB hG => ?_)
  obtain ⟨M2, D2, fk2, tp2, pt2, pd2, ov2, hcl2, hQ2, ho2, ha2⟩ := j_finders hQ hA hB
  refine lv_istore (lv' := [(6, .int b727), (5, .int k715), (4, .int (nI i)), (3, .ref o), (2, .ref mo), (1, .ref x), (0, .ref b)]) hx hb d_la_law_730 hl (by decide) rfl (fun ls hl => ?_)
  refine lv_aload_n hx hb d_la_law_732 rfl (lv_at hl 4 rfl) ?_
  obtain ⟨cf, mf, ff, gf, sf, tf, bf, hP2, -⟩ := id hQ2
  refine g_reti (g_runV (As := []) (rest := []) S lk_la_87 k_mo_thrown (c_mo_thrown l Z G2 mo hP2) ⟨rfl, rfl⟩ ⟨(Nat.le_of_ble_eq_true rfl), (Nat.le_of_ble_eq_true rfl)⟩ (gPreV hG.1 hE hP2.1 rfl) rfl hl.1 rfl (Nat.le_of_ble_eq_true rfl) d_la_law_733 ⟨(by omega), (by omega)⟩) (fun r733 h733 => ?_)
  refine g_topi (y := k715) h733 ?_
  refine lv_iload hx hb d_la_law_736 (lv_at hl 1 rfl) ?_
  refine lv_icmp_eq (tgt := 743) hx hb d_la_law_738 (by decide) (fun c738 => ?_) (fun c738 => absurd c738 (not_not_intro rfl))
  refine lv_iload hx hb d_la_law_743 (lv_at hl 1 rfl) ?_
  refine lv_if_ne (tgt := 760) hx hb d_la_law_745 (by decide) (fun c745 => ?_) (fun c745 => ?_)
  · refine lv_goto (tgt := 1171) hx hb d_la_law_760 (by decide) ?_
    refine W.widen (k := K + 8) (n := N + 50) (by omega) (by omega) ?_
    exact kk _ _ _ _ _ ⟨u1, u2, u3, u4, u5, u6, u7, M2, D2, fk2, tp2, pt2, pd2, ov2, hcl2, hQ2, ho2⟩ hG (lv_sub hl [2, 3, 4, 5, 6] rfl)
  · refine lv_aload_n hx hb d_la_law_748 rfl (lv_at hl 3 rfl) ?_
    refine lv_iconst (v := nI 0) hx hb d_la_law_749 (by decide) ?_
    refine g_lald S hE.1 hG.1 ho2 0 rfl (vp_in_nI (by omega) (by omega)) d_la_law_750 ?_
    refine g_topl (congrArg ov2 (nI_clamp (show 0 < 2 ^ 31 by omega))) ?_
    refine lv_iload hx hb d_la_law_751 (lv_at hl 0 rfl) ?_
    refine lv_i2l hx hb d_la_law_753 rfl ?_
    refine W.lcmp hx hb d_la_law_754 ?_
    refine lv_if_eq (tgt := 760) hx hb d_la_law_755 (by decide) (fun c755 => ?_) (fun c755 => absurd c755 (not_not_intro ((lg_cmp_eq _ _).mpr (ha2 c745))))
    refine lv_goto (tgt := 1171) hx hb d_la_law_760 (by decide) ?_
    refine W.widen (k := K + 8) (n := N + 50) (by omega) (by omega) ?_
    exact kk _ _ _ _ _ ⟨u1, u2, u3, u4, u5, u6, u7, M2, D2, fk2, tp2, pt2, pd2, ov2, hcl2, hQ2, ho2⟩ hG (lv_sub hl [2, 3, 4, 5, 6] rfl)
set_option maxHeartbeats 600000 in
set_option maxRecDepth 100000 in
theorem st_11 {p : Program} {l : Launch} {e : Env} {s : State} {m : MethodId} {below : List Frame} {meth : Method} {c : Code} {Q : State → Prop} {Z : gZ} {b L x mo o C E i K N : Nat} {xs : Nat → Int32} {th : Int32} (F : lwF p l s m c Z b L xs) {G : gh} {H : Heap} {locs : List Loc} {ls : Array Slot} (hI : lwI Z G x mo o C E th) (hG : gS (gA (fun _ => none) s.heap.size) s.heap Z.1 cls G H locs) (hl : lv_has ls 8 [(4, .int (nI i)), (3, .ref o), (2, .ref mo), (1, .ref x), (0, .ref b)]) (hi : i + 5 ≤ L) (hKc : K + 8 ≤ room_1.cells) (hKs : N + 50 ≤ room_1.slots) (kk : ∀ (G : gh) (H : Heap) (locs : List Loc) (ls : Array Slot) (th : Int32), lwI Z G x mo o C E th → gS (gA (fun _ => none) s.heap.size) s.heap Z.1 cls G H locs → lv_has ls 8 [(4, .int (nI i)), (3, .ref o), (2, .ref mo), (1, .ref x), (0, .ref b)] → W p l e room_1 s m #[Value.ref b] below meth c H locs (K + 8) (N + 50) Q (F0 m 1171 ls [])) : W p l e room_1 s m #[Value.ref b] below meth c H locs K N Q (F0 m 763 ls []) := by
  obtain ⟨S, hl9, hE, hX, hN, hXs, hbl, hL⟩ := F
  have hx := S.1
  have hb := S.2.1
  have hbA := lw_nA hbl
  obtain ⟨u1, u2, u3, u4, u5, u6, u7, M, D, fk, tp, pt, pd, ov, hcl, hQ, ho⟩ := hI
  have hbd := moQ_bd hQ
  refine lv_aload_n hx hb d_la_law_763 rfl (lv_at hl 3 rfl) ?_
  refine lv_aload_n hx hb d_la_law_764 rfl (lv_at hl 4 rfl) ?_
  refine lv_iload hx hb d_la_law_765 (lv_at hl 0 rfl) ?_
  refine lv_iconst (v := nI 1) hx hb d_la_law_767 (by decide) ?_
  refine lv_iadd hx hb d_la_law_768 ?_
  refine g_topi (y := nI (i + 1)) (nI_add i 1) ?_
  refine va_sld hx hb hXs hbl hbA hG.2.2.1 (vp_in_nI (by omega) (by omega)) d_la_law_769 ?_
  refine g_topi (congrArg xs (nI_clamp (show (i + 1) < 2 ^ 31 by omega))) ?_
  refine lv_aload_n hx hb d_la_law_770 rfl (lv_at hl 4 rfl) ?_
  refine lv_iload hx hb d_la_law_771 (lv_at hl 0 rfl) ?_
  refine lv_iconst (v := nI 2) hx hb d_la_law_773 (by decide) ?_
  refine lv_iadd hx hb d_la_law_774 ?_
  refine g_topi (y := nI (i + 2)) (nI_add i 2) ?_
  refine va_sld hx hb hXs hbl hbA hG.2.2.1 (vp_in_nI (by omega) (by omega)) d_la_law_775 ?_
  refine g_topi (congrArg xs (nI_clamp (show (i + 2) < 2 ^ 31 by omega))) ?_
  refine lv_aload_n hx hb d_la_law_776 rfl (lv_at hl 4 rfl) ?_
  refine lv_iload hx hb d_la_law_777 (lv_at hl 0 rfl) ?_
  refine lv_iconst (v := nI 3) hx hb d_la_law_779 (by decide) ?_
  refine lv_iadd hx hb d_la_law_780 ?_
  refine g_topi (y := nI (i + 3)) (nI_add i 3) ?_
  refine va_sld hx hb hXs hbl hbA hG.2.2.1 (vp_in_nI (by omega) (by omega)) d_la_law_781 ?_
  refine g_topi (congrArg xs (nI_clamp (show (i + 3) < 2 ^ 31 by omega))) ?_
  refine lv_aload_n hx hb d_la_law_782 rfl (lv_at hl 1 rfl) ?_
  refine g_wi hG (g_runSW (As := [.ref x, .int (xs (i + 1)), .int (xs (i + 2)), .int (xs (i + 3)), .ref o]) (rest := []) S lk_la_128 k_la_mask (c_la_mask l hl9 Z G H.size x o hcl ho hbd (xs (i + 1)) (xs (i + 2)) (xs (i + 3))) ⟨rfl, rfl⟩ ⟨(Nat.le_of_ble_eq_true rfl), (Nat.le_of_ble_eq_true rfl)⟩ (gPyS hG hE hX hN) rfl hl.1 rfl (Nat.le_of_ble_eq_true rfl) d_la_law_783 ⟨(by omega), (by omega)⟩) (fun k783 G1 H locs hA hG => ?_)
  have hk1 : kX mE G G1 := by obtain ⟨_, _, h, _⟩ := hA; exact h
  have hQ1 := moQ_km hQ hk1
  obtain ⟨fm1, hm1⟩ := moQ_cell hQ1
  refine lv_istore (lv' := [(5, .int k783), (4, .int (nI i)), (3, .ref o), (2, .ref mo), (1, .ref x), (0, .ref b)]) hx hb d_la_law_786 hl (by decide) rfl (fun ls hl => ?_)
  refine lv_aload_n hx hb d_la_law_788 rfl (lv_at hl 3 rfl) ?_
  refine lv_aload_n hx hb d_la_law_789 rfl (lv_at hl 5 rfl) ?_
  refine lv_iload hx hb d_la_law_790 (lv_at hl 1 rfl) ?_
  refine lv_iconst (v := nI 1) hx hb d_la_law_792 (by decide) ?_
  refine lv_iadd hx hb d_la_law_793 ?_
  refine g_topi (y := nI (i + 1)) (nI_add i 1) ?_
  refine va_sld hx hb hXs hbl hbA hG.2.2.1 (vp_in_nI (by omega) (by omega)) d_la_law_794 ?_
  refine g_topi (congrArg xs (nI_clamp (show (i + 1) < 2 ^ 31 by omega))) ?_
  refine lv_aload_n hx hb d_la_law_795 rfl (lv_at hl 5 rfl) ?_
  refine lv_iload hx hb d_la_law_796 (lv_at hl 1 rfl) ?_
  refine lv_iconst (v := nI 2) hx hb d_la_law_798 (by decide) ?_
  refine lv_iadd hx hb d_la_law_799 ?_
  refine g_topi (y := nI (i + 2)) (nI_add i 2) ?_
  refine va_sld hx hb hXs hbl hbA hG.2.2.1 (vp_in_nI (by omega) (by omega)) d_la_law_800 ?_
  refine g_topi (congrArg xs (nI_clamp (show (i + 2) < 2 ^ 31 by omega))) ?_
  refine lv_aload_n hx hb d_la_law_801 rfl (lv_at hl 5 rfl) ?_
  refine lv_iload hx hb d_la_law_802 (lv_at hl 1 rfl) ?_
  refine lv_iconst (v := nI 3) hx hb d_la_law_804 (by decide) ?_
  refine lv_iadd hx hb d_la_law_805 ?_
  refine g_topi (y := nI (i + 3)) (nI_add i 3) ?_
  refine va_sld hx hb hXs hbl hbA hG.2.2.1 (vp_in_nI (by omega) (by omega)) d_la_law_806 ?_
  refine g_topi (congrArg xs (nI_clamp (show (i + 3) < 2 ^ 31 by omega))) ?_
  refine g_wi hG (g_runV (As := [.int (xs (i + 1)), .int (xs (i + 2)), .int (xs (i + 3))]) (rest := []) S lk_la_130 k_mo_mask (c_mo_mask l Z G1 H.size mo hQ1 (xs (i + 1)) (xs (i + 2)) (xs (i + 3))) ⟨rfl, rfl⟩ ⟨(Nat.le_of_ble_eq_true rfl), (Nat.le_of_ble_eq_true rfl)⟩ (gPwV hG.1 hE hm1 rfl) rfl hl.1 rfl (Nat.le_of_ble_eq_true rfl) d_la_law_807 ⟨(by omega), (by omega)⟩) (fun b807 G2 H locs hB hG => ?_)
  obtain ⟨M2, D2, fk2, tp2, pt2, pd2, ov2, hcl2, hQ2, ho2, ha2⟩ := j_mask hQ hA hB
  refine lv_istore (lv' := [(6, .int b807), (5, .int k783), (4, .int (nI i)), (3, .ref o), (2, .ref mo), (1, .ref x), (0, .ref b)]) hx hb d_la_law_810 hl (by decide) rfl (fun ls hl => ?_)
  refine lv_aload_n hx hb d_la_law_812 rfl (lv_at hl 4 rfl) ?_
  obtain ⟨cf, mf, ff, gf, sf, tf, bf, hP2, -⟩ := id hQ2
  refine g_reti (g_runV (As := []) (rest := []) S lk_la_87 k_mo_thrown (c_mo_thrown l Z G2 mo hP2) ⟨rfl, rfl⟩ ⟨(Nat.le_of_ble_eq_true rfl), (Nat.le_of_ble_eq_true rfl)⟩ (gPreV hG.1 hE hP2.1 rfl) rfl hl.1 rfl (Nat.le_of_ble_eq_true rfl) d_la_law_813 ⟨(by omega), (by omega)⟩) (fun r813 h813 => ?_)
  refine g_topi (y := k783) h813 ?_
  refine lv_iload hx hb d_la_law_816 (lv_at hl 1 rfl) ?_
  refine lv_icmp_eq (tgt := 823) hx hb d_la_law_818 (by decide) (fun c818 => ?_) (fun c818 => absurd c818 (not_not_intro rfl))
  refine lv_iload hx hb d_la_law_823 (lv_at hl 1 rfl) ?_
  refine lv_if_ne (tgt := 847) hx hb d_la_law_825 (by decide) (fun c825 => ?_) (fun c825 => ?_)
  · refine lv_goto (tgt := 1171) hx hb d_la_law_847 (by decide) ?_
    refine W.widen (k := K + 8) (n := N + 50) (by omega) (by omega) ?_
    exact kk _ _ _ _ _ ⟨u1, u2, u3, u4, u5, u6, u7, M2, D2, fk2, tp2, pt2, pd2, ov2, hcl2, hQ2, ho2⟩ hG (lv_sub hl [2, 3, 4, 5, 6] rfl)
  · refine lv_aload_n hx hb d_la_law_828 rfl (lv_at hl 3 rfl) ?_
    refine lv_iconst (v := nI 0) hx hb d_la_law_829 (by decide) ?_
    refine g_lald S hE.1 hG.1 ho2 0 rfl (vp_in_nI (by omega) (by omega)) d_la_law_830 ?_
    refine g_topl (congrArg ov2 (nI_clamp (show 0 < 2 ^ 31 by omega))) ?_
    refine lv_iload hx hb d_la_law_831 (lv_at hl 0 rfl) ?_
    refine lv_if_eq (tgt := 840) hx hb d_la_law_833 (by decide) (fun c833 => ?_) (fun c833 => ?_)
    · refine lv_lconst (v := 0) hx hb d_la_law_840 (by decide) ?_
      refine W.lcmp hx hb d_la_law_841 ?_
      refine lv_if_eq (tgt := 847) hx hb d_la_law_842 (by decide) (fun c842 => ?_) (fun c842 => absurd c842 (not_not_intro ((lg_cmp_eq _ _).mpr ((ha2 c825).trans (zl_0 c833)))))
      refine lv_goto (tgt := 1171) hx hb d_la_law_847 (by decide) ?_
      refine W.widen (k := K + 8) (n := N + 50) (by omega) (by omega) ?_
      exact kk _ _ _ _ _ ⟨u1, u2, u3, u4, u5, u6, u7, M2, D2, fk2, tp2, pt2, pd2, ov2, hcl2, hQ2, ho2⟩ hG (lv_sub hl [2, 3, 4, 5, 6] rfl)
    · refine lv_lconst (v := 1) hx hb d_la_law_836 (by decide) ?_
      refine lv_goto (tgt := 841) hx hb d_la_law_837 (by decide) ?_
      refine W.lcmp hx hb d_la_law_841 ?_
      refine lv_if_eq (tgt := 847) hx hb d_la_law_842 (by decide) (fun c842 => ?_) (fun c842 => absurd c842 (not_not_intro ((lg_cmp_eq _ _).mpr ((ha2 c825).trans (zl_1 c833)))))
      refine lv_goto (tgt := 1171) hx hb d_la_law_847 (by decide) ?_
      refine W.widen (k := K + 8) (n := N + 50) (by omega) (by omega) ?_
      exact kk _ _ _ _ _ ⟨u1, u2, u3, u4, u5, u6, u7, M2, D2, fk2, tp2, pt2, pd2, ov2, hcl2, hQ2, ho2⟩ hG (lv_sub hl [2, 3, 4, 5, 6] rfl)
set_option maxHeartbeats 600000 in
set_option maxRecDepth 100000 in
theorem st_12 {p : Program} {l : Launch} {e : Env} {s : State} {m : MethodId} {below : List Frame} {meth : Method} {c : Code} {Q : State → Prop} {Z : gZ} {b L x mo o C E i K N : Nat} {xs : Nat → Int32} {th : Int32} (F : lwF p l s m c Z b L xs) {G : gh} {H : Heap} {locs : List Loc} {ls : Array Slot} (hI : lwI Z G x mo o C E th) (hG : gS (gA (fun _ => none) s.heap.size) s.heap Z.1 cls G H locs) (hl : lv_has ls 8 [(4, .int (nI i)), (3, .ref o), (2, .ref mo), (1, .ref x), (0, .ref b)]) (hi : i + 5 ≤ L) (hKc : K + 8 ≤ room_1.cells) (hKs : N + 50 ≤ room_1.slots) (kk : ∀ (G : gh) (H : Heap) (locs : List Loc) (ls : Array Slot) (th : Int32), lwI Z G x mo o C E th → gS (gA (fun _ => none) s.heap.size) s.heap Z.1 cls G H locs → lv_has ls 8 [(4, .int (nI i)), (3, .ref o), (2, .ref mo), (1, .ref x), (0, .ref b)] → W p l e room_1 s m #[Value.ref b] below meth c H locs (K + 8) (N + 50) Q (F0 m 1171 ls [])) : W p l e room_1 s m #[Value.ref b] below meth c H locs K N Q (F0 m 850 ls []) := by
  obtain ⟨S, hl9, hE, hX, hN, hXs, hbl, hL⟩ := F
  have hx := S.1
  have hb := S.2.1
  have hbA := lw_nA hbl
  obtain ⟨u1, u2, u3, u4, u5, u6, u7, M, D, fk, tp, pt, pd, ov, hcl, hQ, ho⟩ := hI
  have hbd := moQ_bd hQ
  refine lv_aload_n hx hb d_la_law_850 rfl (lv_at hl 3 rfl) ?_
  refine lv_aload_n hx hb d_la_law_851 rfl (lv_at hl 4 rfl) ?_
  refine lv_iload hx hb d_la_law_852 (lv_at hl 0 rfl) ?_
  refine lv_iconst (v := nI 1) hx hb d_la_law_854 (by decide) ?_
  refine lv_iadd hx hb d_la_law_855 ?_
  refine g_topi (y := nI (i + 1)) (nI_add i 1) ?_
  refine va_sld hx hb hXs hbl hbA hG.2.2.1 (vp_in_nI (by omega) (by omega)) d_la_law_856 ?_
  refine g_topi (congrArg xs (nI_clamp (show (i + 1) < 2 ^ 31 by omega))) ?_
  refine lv_aload_n hx hb d_la_law_857 rfl (lv_at hl 4 rfl) ?_
  refine lv_iload hx hb d_la_law_858 (lv_at hl 0 rfl) ?_
  refine lv_iconst (v := nI 2) hx hb d_la_law_860 (by decide) ?_
  refine lv_iadd hx hb d_la_law_861 ?_
  refine g_topi (y := nI (i + 2)) (nI_add i 2) ?_
  refine va_sld hx hb hXs hbl hbA hG.2.2.1 (vp_in_nI (by omega) (by omega)) d_la_law_862 ?_
  refine g_topi (congrArg xs (nI_clamp (show (i + 2) < 2 ^ 31 by omega))) ?_
  refine lv_aload_n hx hb d_la_law_863 rfl (lv_at hl 1 rfl) ?_
  refine g_wi hG (g_runSW (As := [.ref x, .int (xs (i + 1)), .int (xs (i + 2)), .ref o]) (rest := []) S lk_la_131 k_la_signature (c_la_signature l hl9 Z G H.size x o hcl ho hbd (xs (i + 1)) (xs (i + 2))) ⟨rfl, rfl⟩ ⟨(Nat.le_of_ble_eq_true rfl), (Nat.le_of_ble_eq_true rfl)⟩ (gPyS hG hE hX hN) rfl hl.1 rfl (Nat.le_of_ble_eq_true rfl) d_la_law_864 ⟨(by omega), (by omega)⟩) (fun k864 G1 H locs hA hG => ?_)
  have hk1 : kX mE G G1 := by obtain ⟨_, _, h, _⟩ := hA; exact h
  have hQ1 := moQ_km hQ hk1
  obtain ⟨fm1, hm1⟩ := moQ_cell hQ1
  refine lv_istore (lv' := [(5, .int k864), (4, .int (nI i)), (3, .ref o), (2, .ref mo), (1, .ref x), (0, .ref b)]) hx hb d_la_law_867 hl (by decide) rfl (fun ls hl => ?_)
  refine lv_aload_n hx hb d_la_law_869 rfl (lv_at hl 3 rfl) ?_
  refine lv_aload_n hx hb d_la_law_870 rfl (lv_at hl 5 rfl) ?_
  refine lv_iload hx hb d_la_law_871 (lv_at hl 1 rfl) ?_
  refine lv_iconst (v := nI 1) hx hb d_la_law_873 (by decide) ?_
  refine lv_iadd hx hb d_la_law_874 ?_
  refine g_topi (y := nI (i + 1)) (nI_add i 1) ?_
  refine va_sld hx hb hXs hbl hbA hG.2.2.1 (vp_in_nI (by omega) (by omega)) d_la_law_875 ?_
  refine g_topi (congrArg xs (nI_clamp (show (i + 1) < 2 ^ 31 by omega))) ?_
  refine lv_aload_n hx hb d_la_law_876 rfl (lv_at hl 5 rfl) ?_
  refine lv_iload hx hb d_la_law_877 (lv_at hl 1 rfl) ?_
  refine lv_iconst (v := nI 2) hx hb d_la_law_879 (by decide) ?_
  refine lv_iadd hx hb d_la_law_880 ?_
  refine g_topi (y := nI (i + 2)) (nI_add i 2) ?_
  refine va_sld hx hb hXs hbl hbA hG.2.2.1 (vp_in_nI (by omega) (by omega)) d_la_law_881 ?_
  refine g_topi (congrArg xs (nI_clamp (show (i + 2) < 2 ^ 31 by omega))) ?_
  refine g_wl hG (g_runV (As := [.int (xs (i + 1)), .int (xs (i + 2))]) (rest := []) S lk_la_133 k_mo_signature (c_mo_signature l Z G1 H.size mo hQ1 (xs (i + 1)) (xs (i + 2))) ⟨rfl, rfl⟩ ⟨(Nat.le_of_ble_eq_true rfl), (Nat.le_of_ble_eq_true rfl)⟩ (gPwV hG.1 hE hm1 rfl) rfl hl.1 rfl (Nat.le_of_ble_eq_true rfl) d_la_law_882 ⟨(by omega), (by omega)⟩) (fun b882 G2 H locs hB hG => ?_)
  obtain ⟨M2, D2, fk2, tp2, pt2, pd2, ov2, hcl2, hQ2, ho2, ha2⟩ := j_signature hQ hA hB
  refine lv_lstore (lv' := [(6, .long b882), (5, .int k864), (4, .int (nI i)), (3, .ref o), (2, .ref mo), (1, .ref x), (0, .ref b)]) hx hb d_la_law_885 hl (by decide) rfl (fun ls hl => ?_)
  refine lv_aload_n hx hb d_la_law_887 rfl (lv_at hl 4 rfl) ?_
  obtain ⟨cf, mf, ff, gf, sf, tf, bf, hP2, -⟩ := id hQ2
  refine g_reti (g_runV (As := []) (rest := []) S lk_la_87 k_mo_thrown (c_mo_thrown l Z G2 mo hP2) ⟨rfl, rfl⟩ ⟨(Nat.le_of_ble_eq_true rfl), (Nat.le_of_ble_eq_true rfl)⟩ (gPreV hG.1 hE hP2.1 rfl) rfl hl.1 rfl (Nat.le_of_ble_eq_true rfl) d_la_law_888 ⟨(by omega), (by omega)⟩) (fun r888 h888 => ?_)
  refine g_topi (y := k864) h888 ?_
  refine lv_iload hx hb d_la_law_891 (lv_at hl 1 rfl) ?_
  refine lv_icmp_eq (tgt := 898) hx hb d_la_law_893 (by decide) (fun c893 => ?_) (fun c893 => absurd c893 (not_not_intro rfl))
  refine lv_iload hx hb d_la_law_898 (lv_at hl 1 rfl) ?_
  refine lv_if_ne (tgt := 914) hx hb d_la_law_900 (by decide) (fun c900 => ?_) (fun c900 => ?_)
  · refine lv_goto (tgt := 1171) hx hb d_la_law_914 (by decide) ?_
    refine W.widen (k := K + 8) (n := N + 50) (by omega) (by omega) ?_
    exact kk _ _ _ _ _ ⟨u1, u2, u3, u4, u5, u6, u7, M2, D2, fk2, tp2, pt2, pd2, ov2, hcl2, hQ2, ho2⟩ hG (lv_sub hl [2, 3, 4, 5, 6] rfl)
  · refine lv_aload_n hx hb d_la_law_903 rfl (lv_at hl 3 rfl) ?_
    refine lv_iconst (v := nI 0) hx hb d_la_law_904 (by decide) ?_
    refine g_lald S hE.1 hG.1 ho2 0 rfl (vp_in_nI (by omega) (by omega)) d_la_law_905 ?_
    refine g_topl (congrArg ov2 (nI_clamp (show 0 < 2 ^ 31 by omega))) ?_
    refine lv_lload hx hb d_la_law_906 (lv_at hl 0 rfl) ?_
    refine W.lcmp hx hb d_la_law_908 ?_
    refine lv_if_eq (tgt := 914) hx hb d_la_law_909 (by decide) (fun c909 => ?_) (fun c909 => absurd c909 (not_not_intro ((lg_cmp_eq _ _).mpr (ha2 c900))))
    refine lv_goto (tgt := 1171) hx hb d_la_law_914 (by decide) ?_
    refine W.widen (k := K + 8) (n := N + 50) (by omega) (by omega) ?_
    exact kk _ _ _ _ _ ⟨u1, u2, u3, u4, u5, u6, u7, M2, D2, fk2, tp2, pt2, pd2, ov2, hcl2, hQ2, ho2⟩ hG (lv_sub hl [2, 3, 4, 5, 6] rfl)
set_option maxHeartbeats 600000 in
set_option maxRecDepth 100000 in
theorem st_13 {p : Program} {l : Launch} {e : Env} {s : State} {m : MethodId} {below : List Frame} {meth : Method} {c : Code} {Q : State → Prop} {Z : gZ} {b L x mo o C E i K N : Nat} {xs : Nat → Int32} {th : Int32} (F : lwF p l s m c Z b L xs) {G : gh} {H : Heap} {locs : List Loc} {ls : Array Slot} (hI : lwI Z G x mo o C E th) (hG : gS (gA (fun _ => none) s.heap.size) s.heap Z.1 cls G H locs) (hl : lv_has ls 8 [(4, .int (nI i)), (3, .ref o), (2, .ref mo), (1, .ref x), (0, .ref b)]) (hi : i + 5 ≤ L) (hKc : K + 8 ≤ room_1.cells) (hKs : N + 50 ≤ room_1.slots) (kk : ∀ (G : gh) (H : Heap) (locs : List Loc) (ls : Array Slot) (th : Int32), lwI Z G x mo o C E th → gS (gA (fun _ => none) s.heap.size) s.heap Z.1 cls G H locs → lv_has ls 8 [(4, .int (nI i)), (3, .ref o), (2, .ref mo), (1, .ref x), (0, .ref b)] → W p l e room_1 s m #[Value.ref b] below meth c H locs (K + 8) (N + 50) Q (F0 m 1171 ls [])) : W p l e room_1 s m #[Value.ref b] below meth c H locs K N Q (F0 m 917 ls []) := by
  obtain ⟨S, hl9, hE, hX, hN, hXs, hbl, hL⟩ := F
  have hx := S.1
  have hb := S.2.1
  have hbA := lw_nA hbl
  obtain ⟨u1, u2, u3, u4, u5, u6, u7, M, D, fk, tp, pt, pd, ov, hcl, hQ, ho⟩ := hI
  have hbd := moQ_bd hQ
  refine lv_aload_n hx hb d_la_law_917 rfl (lv_at hl 3 rfl) ?_
  obtain ⟨sh, ma, ro, pa, rw, hc⟩ := id hcl
  obtain ⟨fx, fs, fm, fro, fpa, hpt, hinj⟩ := id hc
  refine g_reti (g_runV (As := []) (rest := []) S lk_la_134 k_ps_primitive (c_ps_primitive l Z G x fx fm hbd.2.2.1 hbd.2.2.2.1) ⟨rfl, rfl⟩ ⟨(Nat.le_of_ble_eq_true rfl), (Nat.le_of_ble_eq_true rfl)⟩ (gPreV hG.1 hE fx rfl) rfl hl.1 rfl (Nat.le_of_ble_eq_true rfl) d_la_law_918 ⟨(by omega), (by omega)⟩) (fun k918 hA => ?_)
  have hk1 : kX noC G G := kX.rf
  have hcl1 := hcl
  have hQ1 := hQ
  obtain ⟨fm1, hm1⟩ := moQ_cell hQ1
  refine lv_aload_n hx hb d_la_law_921 rfl (lv_at hl 2 rfl) ?_
  refine g_wi hG (g_runV (As := []) (rest := [.int k918]) S lk_la_138 k_mo_primitive (c_mo_primitive l Z G H.size mo hQ1 ) ⟨rfl, rfl⟩ ⟨(Nat.le_of_ble_eq_true rfl), (Nat.le_of_ble_eq_true rfl)⟩ (gPwV hG.1 hE hm1 rfl) rfl hl.1 rfl (Nat.le_of_ble_eq_true rfl) d_la_law_922 ⟨(by omega), (by omega)⟩) (fun b922 G2 H locs hB hG => ?_)
  obtain ⟨M2, D2, fk2, tp2, pt2, pd2, ov2, hcl2, hQ2, ho2, ha2⟩ := j_primitive hQ hcl1 hk1 ho hB
  refine lv_icmp_eq (tgt := 1171) hx hb d_la_law_925 (by decide) (fun c925 => ?_) (fun c925 => absurd c925 (not_not_intro (pr_eq hA hB.2.1)))
  refine W.widen (k := K + 8) (n := N + 50) (by omega) (by omega) ?_
  exact kk _ _ _ _ _ ⟨u1, u2, u3, u4, u5, u6, u7, M2, D2, fk2, tp2, pt2, pd2, ov2, hcl2, hQ2, ho2⟩ hG (lv_sub hl [0, 1, 2, 3, 4] rfl)
set_option maxHeartbeats 600000 in
set_option maxRecDepth 100000 in
theorem st_14 {p : Program} {l : Launch} {e : Env} {s : State} {m : MethodId} {below : List Frame} {meth : Method} {c : Code} {Q : State → Prop} {Z : gZ} {b L x mo o C E i K N : Nat} {xs : Nat → Int32} {th : Int32} (F : lwF p l s m c Z b L xs) {G : gh} {H : Heap} {locs : List Loc} {ls : Array Slot} (hI : lwI Z G x mo o C E th) (hG : gS (gA (fun _ => none) s.heap.size) s.heap Z.1 cls G H locs) (hl : lv_has ls 8 [(4, .int (nI i)), (3, .ref o), (2, .ref mo), (1, .ref x), (0, .ref b)]) (hi : i + 5 ≤ L) (hKc : K + 8 ≤ room_1.cells) (hKs : N + 50 ≤ room_1.slots) (kk : ∀ (G : gh) (H : Heap) (locs : List Loc) (ls : Array Slot) (th : Int32), lwI Z G x mo o C E th → gS (gA (fun _ => none) s.heap.size) s.heap Z.1 cls G H locs → lv_has ls 8 [(4, .int (nI i)), (3, .ref o), (2, .ref mo), (1, .ref x), (0, .ref b)] → W p l e room_1 s m #[Value.ref b] below meth c H locs (K + 8) (N + 50) Q (F0 m 1171 ls [])) : W p l e room_1 s m #[Value.ref b] below meth c H locs K N Q (F0 m 930 ls []) := by
  obtain ⟨S, hl9, hE, hX, hN, hXs, hbl, hL⟩ := F
  have hx := S.1
  have hb := S.2.1
  have hbA := lw_nA hbl
  obtain ⟨u1, u2, u3, u4, u5, u6, u7, M, D, fk, tp, pt, pd, ov, hcl, hQ, ho⟩ := hI
  have hbd := moQ_bd hQ
  refine lv_aload_n hx hb d_la_law_930 rfl (lv_at hl 3 rfl) ?_
  refine lv_aload_n hx hb d_la_law_931 rfl (lv_at hl 4 rfl) ?_
  refine lv_iload hx hb d_la_law_932 (lv_at hl 0 rfl) ?_
  refine lv_iconst (v := nI 1) hx hb d_la_law_934 (by decide) ?_
  refine lv_iadd hx hb d_la_law_935 ?_
  refine g_topi (y := nI (i + 1)) (nI_add i 1) ?_
  refine va_sld hx hb hXs hbl hbA hG.2.2.1 (vp_in_nI (by omega) (by omega)) d_la_law_936 ?_
  refine g_topi (congrArg xs (nI_clamp (show (i + 1) < 2 ^ 31 by omega))) ?_
  refine lv_aload_n hx hb d_la_law_937 rfl (lv_at hl 4 rfl) ?_
  refine lv_iload hx hb d_la_law_938 (lv_at hl 0 rfl) ?_
  refine lv_iconst (v := nI 2) hx hb d_la_law_940 (by decide) ?_
  refine lv_iadd hx hb d_la_law_941 ?_
  refine g_topi (y := nI (i + 2)) (nI_add i 2) ?_
  refine va_sld hx hb hXs hbl hbA hG.2.2.1 (vp_in_nI (by omega) (by omega)) d_la_law_942 ?_
  refine g_topi (congrArg xs (nI_clamp (show (i + 2) < 2 ^ 31 by omega))) ?_
  refine lv_aload_n hx hb d_la_law_943 rfl (lv_at hl 1 rfl) ?_
  refine g_wi hG (g_runSW (As := [.ref x, .int (xs (i + 1)), .int (xs (i + 2)), .ref o]) (rest := []) S lk_la_139 k_la_alias (c_la_alias l hl9 Z G H.size x o hcl ho hbd (xs (i + 1)) (xs (i + 2))) ⟨rfl, rfl⟩ ⟨(Nat.le_of_ble_eq_true rfl), (Nat.le_of_ble_eq_true rfl)⟩ (gPyS hG hE hX hN) rfl hl.1 rfl (Nat.le_of_ble_eq_true rfl) d_la_law_944 ⟨(by omega), (by omega)⟩) (fun k944 G1 H locs hA hG => ?_)
  have hk1 : kX mE G G1 := by obtain ⟨_, _, h, _⟩ := hA; exact h
  have hQ1 := moQ_km hQ hk1
  obtain ⟨fm1, hm1⟩ := moQ_cell hQ1
  refine lv_istore (lv' := [(5, .int k944), (4, .int (nI i)), (3, .ref o), (2, .ref mo), (1, .ref x), (0, .ref b)]) hx hb d_la_law_947 hl (by decide) rfl (fun ls hl => ?_)
  refine lv_aload_n hx hb d_la_law_949 rfl (lv_at hl 3 rfl) ?_
  refine lv_aload_n hx hb d_la_law_950 rfl (lv_at hl 5 rfl) ?_
  refine lv_iload hx hb d_la_law_951 (lv_at hl 1 rfl) ?_
  refine lv_iconst (v := nI 1) hx hb d_la_law_953 (by decide) ?_
  refine lv_iadd hx hb d_la_law_954 ?_
  refine g_topi (y := nI (i + 1)) (nI_add i 1) ?_
  refine va_sld hx hb hXs hbl hbA hG.2.2.1 (vp_in_nI (by omega) (by omega)) d_la_law_955 ?_
  refine g_topi (congrArg xs (nI_clamp (show (i + 1) < 2 ^ 31 by omega))) ?_
  refine lv_aload_n hx hb d_la_law_956 rfl (lv_at hl 5 rfl) ?_
  refine lv_iload hx hb d_la_law_957 (lv_at hl 1 rfl) ?_
  refine lv_iconst (v := nI 2) hx hb d_la_law_959 (by decide) ?_
  refine lv_iadd hx hb d_la_law_960 ?_
  refine g_topi (y := nI (i + 2)) (nI_add i 2) ?_
  refine va_sld hx hb hXs hbl hbA hG.2.2.1 (vp_in_nI (by omega) (by omega)) d_la_law_961 ?_
  refine g_topi (congrArg xs (nI_clamp (show (i + 2) < 2 ^ 31 by omega))) ?_
  refine g_wl hG (g_runV (As := [.int (xs (i + 1)), .int (xs (i + 2))]) (rest := []) S lk_la_141 k_mo_alias (c_mo_alias l Z G1 H.size mo hQ1 (xs (i + 1)) (xs (i + 2))) ⟨rfl, rfl⟩ ⟨(Nat.le_of_ble_eq_true rfl), (Nat.le_of_ble_eq_true rfl)⟩ (gPwV hG.1 hE hm1 rfl) rfl hl.1 rfl (Nat.le_of_ble_eq_true rfl) d_la_law_962 ⟨(by omega), (by omega)⟩) (fun b962 G2 H locs hB hG => ?_)
  obtain ⟨M2, D2, fk2, tp2, pt2, pd2, ov2, hcl2, hQ2, ho2, ha2⟩ := j_alias hQ hA hB
  refine lv_lstore (lv' := [(6, .long b962), (5, .int k944), (4, .int (nI i)), (3, .ref o), (2, .ref mo), (1, .ref x), (0, .ref b)]) hx hb d_la_law_965 hl (by decide) rfl (fun ls hl => ?_)
  refine lv_aload_n hx hb d_la_law_967 rfl (lv_at hl 4 rfl) ?_
  obtain ⟨cf, mf, ff, gf, sf, tf, bf, hP2, -⟩ := id hQ2
  refine g_reti (g_runV (As := []) (rest := []) S lk_la_87 k_mo_thrown (c_mo_thrown l Z G2 mo hP2) ⟨rfl, rfl⟩ ⟨(Nat.le_of_ble_eq_true rfl), (Nat.le_of_ble_eq_true rfl)⟩ (gPreV hG.1 hE hP2.1 rfl) rfl hl.1 rfl (Nat.le_of_ble_eq_true rfl) d_la_law_968 ⟨(by omega), (by omega)⟩) (fun r968 h968 => ?_)
  refine g_topi (y := k944) h968 ?_
  refine lv_iload hx hb d_la_law_971 (lv_at hl 1 rfl) ?_
  refine lv_icmp_eq (tgt := 978) hx hb d_la_law_973 (by decide) (fun c973 => ?_) (fun c973 => absurd c973 (not_not_intro rfl))
  refine lv_iload hx hb d_la_law_978 (lv_at hl 1 rfl) ?_
  refine lv_if_ne (tgt := 994) hx hb d_la_law_980 (by decide) (fun c980 => ?_) (fun c980 => ?_)
  · refine lv_goto (tgt := 1171) hx hb d_la_law_994 (by decide) ?_
    refine W.widen (k := K + 8) (n := N + 50) (by omega) (by omega) ?_
    exact kk _ _ _ _ _ ⟨u1, u2, u3, u4, u5, u6, u7, M2, D2, fk2, tp2, pt2, pd2, ov2, hcl2, hQ2, ho2⟩ hG (lv_sub hl [2, 3, 4, 5, 6] rfl)
  · refine lv_aload_n hx hb d_la_law_983 rfl (lv_at hl 3 rfl) ?_
    refine lv_iconst (v := nI 0) hx hb d_la_law_984 (by decide) ?_
    refine g_lald S hE.1 hG.1 ho2 0 rfl (vp_in_nI (by omega) (by omega)) d_la_law_985 ?_
    refine g_topl (congrArg ov2 (nI_clamp (show 0 < 2 ^ 31 by omega))) ?_
    refine lv_lload hx hb d_la_law_986 (lv_at hl 0 rfl) ?_
    refine W.lcmp hx hb d_la_law_988 ?_
    refine lv_if_eq (tgt := 994) hx hb d_la_law_989 (by decide) (fun c989 => ?_) (fun c989 => absurd c989 (not_not_intro ((lg_cmp_eq _ _).mpr (ha2 c980))))
    refine lv_goto (tgt := 1171) hx hb d_la_law_994 (by decide) ?_
    refine W.widen (k := K + 8) (n := N + 50) (by omega) (by omega) ?_
    exact kk _ _ _ _ _ ⟨u1, u2, u3, u4, u5, u6, u7, M2, D2, fk2, tp2, pt2, pd2, ov2, hcl2, hQ2, ho2⟩ hG (lv_sub hl [2, 3, 4, 5, 6] rfl)
set_option maxHeartbeats 600000 in
set_option maxRecDepth 100000 in
theorem st_15 {p : Program} {l : Launch} {e : Env} {s : State} {m : MethodId} {below : List Frame} {meth : Method} {c : Code} {Q : State → Prop} {Z : gZ} {b L x mo o C E i K N : Nat} {xs : Nat → Int32} {th : Int32} (F : lwF p l s m c Z b L xs) {G : gh} {H : Heap} {locs : List Loc} {ls : Array Slot} (hI : lwI Z G x mo o C E th) (hG : gS (gA (fun _ => none) s.heap.size) s.heap Z.1 cls G H locs) (hl : lv_has ls 8 [(4, .int (nI i)), (3, .ref o), (2, .ref mo), (1, .ref x), (0, .ref b)]) (hi : i + 5 ≤ L) (hKc : K + 8 ≤ room_1.cells) (hKs : N + 50 ≤ room_1.slots) (kk : ∀ (G : gh) (H : Heap) (locs : List Loc) (ls : Array Slot) (th : Int32), lwI Z G x mo o C E th → gS (gA (fun _ => none) s.heap.size) s.heap Z.1 cls G H locs → lv_has ls 8 [(4, .int (nI i)), (3, .ref o), (2, .ref mo), (1, .ref x), (0, .ref b)] → W p l e room_1 s m #[Value.ref b] below meth c H locs (K + 8) (N + 50) Q (F0 m 1171 ls [])) : W p l e room_1 s m #[Value.ref b] below meth c H locs K N Q (F0 m 997 ls []) := by
  obtain ⟨S, hl9, hE, hX, hN, hXs, hbl, hL⟩ := F
  have hx := S.1
  have hb := S.2.1
  have hbA := lw_nA hbl
  obtain ⟨u1, u2, u3, u4, u5, u6, u7, M, D, fk, tp, pt, pd, ov, hcl, hQ, ho⟩ := hI
  have hbd := moQ_bd hQ
  refine lv_aload_n hx hb d_la_law_997 rfl (lv_at hl 3 rfl) ?_
  refine lv_aload_n hx hb d_la_law_998 rfl (lv_at hl 4 rfl) ?_
  refine lv_iload hx hb d_la_law_999 (lv_at hl 0 rfl) ?_
  refine lv_iconst (v := nI 1) hx hb d_la_law_1001 (by decide) ?_
  refine lv_iadd hx hb d_la_law_1002 ?_
  refine g_topi (y := nI (i + 1)) (nI_add i 1) ?_
  refine va_sld hx hb hXs hbl hbA hG.2.2.1 (vp_in_nI (by omega) (by omega)) d_la_law_1003 ?_
  refine g_topi (congrArg xs (nI_clamp (show (i + 1) < 2 ^ 31 by omega))) ?_
  refine lv_aload_n hx hb d_la_law_1004 rfl (lv_at hl 1 rfl) ?_
  refine g_wi hG (g_runSW (As := [.ref x, .int (xs (i + 1)), .ref o]) (rest := []) S lk_la_142 k_la_fill (c_la_fill l hl9 Z G H.size x o hcl ho hbd (xs (i + 1))) ⟨rfl, rfl⟩ ⟨(Nat.le_of_ble_eq_true rfl), (Nat.le_of_ble_eq_true rfl)⟩ (gPyS hG hE hX hN) rfl hl.1 rfl (Nat.le_of_ble_eq_true rfl) d_la_law_1005 ⟨(by omega), (by omega)⟩) (fun k1005 G1 H locs hA hG => ?_)
  have hk1 : kX mE G G1 := by obtain ⟨_, _, h, _⟩ := hA; exact h
  have hQ1 := moQ_km hQ hk1
  obtain ⟨fm1, hm1⟩ := moQ_cell hQ1
  refine lv_istore (lv' := [(5, .int k1005), (4, .int (nI i)), (3, .ref o), (2, .ref mo), (1, .ref x), (0, .ref b)]) hx hb d_la_law_1008 hl (by decide) rfl (fun ls hl => ?_)
  refine lv_aload_n hx hb d_la_law_1010 rfl (lv_at hl 3 rfl) ?_
  refine lv_aload_n hx hb d_la_law_1011 rfl (lv_at hl 5 rfl) ?_
  refine lv_iload hx hb d_la_law_1012 (lv_at hl 1 rfl) ?_
  refine lv_iconst (v := nI 1) hx hb d_la_law_1014 (by decide) ?_
  refine lv_iadd hx hb d_la_law_1015 ?_
  refine g_topi (y := nI (i + 1)) (nI_add i 1) ?_
  refine va_sld hx hb hXs hbl hbA hG.2.2.1 (vp_in_nI (by omega) (by omega)) d_la_law_1016 ?_
  refine g_topi (congrArg xs (nI_clamp (show (i + 1) < 2 ^ 31 by omega))) ?_
  refine g_wi hG (g_runV (As := [.int (xs (i + 1))]) (rest := []) S lk_la_144 k_mo_fill (c_mo_fill l Z G1 H.size mo hQ1 (xs (i + 1))) ⟨rfl, rfl⟩ ⟨(Nat.le_of_ble_eq_true rfl), (Nat.le_of_ble_eq_true rfl)⟩ (gPwV hG.1 hE hm1 rfl) rfl hl.1 rfl (Nat.le_of_ble_eq_true rfl) d_la_law_1017 ⟨(by omega), (by omega)⟩) (fun b1017 G2 H locs hB hG => ?_)
  obtain ⟨M2, D2, fk2, tp2, pt2, pd2, ov2, hcl2, hQ2, ho2, ha2⟩ := j_fill hQ hA hB
  refine lv_istore (lv' := [(6, .int b1017), (5, .int k1005), (4, .int (nI i)), (3, .ref o), (2, .ref mo), (1, .ref x), (0, .ref b)]) hx hb d_la_law_1020 hl (by decide) rfl (fun ls hl => ?_)
  refine lv_aload_n hx hb d_la_law_1022 rfl (lv_at hl 4 rfl) ?_
  obtain ⟨cf, mf, ff, gf, sf, tf, bf, hP2, -⟩ := id hQ2
  refine g_reti (g_runV (As := []) (rest := []) S lk_la_87 k_mo_thrown (c_mo_thrown l Z G2 mo hP2) ⟨rfl, rfl⟩ ⟨(Nat.le_of_ble_eq_true rfl), (Nat.le_of_ble_eq_true rfl)⟩ (gPreV hG.1 hE hP2.1 rfl) rfl hl.1 rfl (Nat.le_of_ble_eq_true rfl) d_la_law_1023 ⟨(by omega), (by omega)⟩) (fun r1023 h1023 => ?_)
  refine g_topi (y := k1005) h1023 ?_
  refine lv_iload hx hb d_la_law_1026 (lv_at hl 1 rfl) ?_
  refine lv_icmp_eq (tgt := 1033) hx hb d_la_law_1028 (by decide) (fun c1028 => ?_) (fun c1028 => absurd c1028 (not_not_intro rfl))
  refine lv_iload hx hb d_la_law_1033 (lv_at hl 1 rfl) ?_
  refine lv_if_ne (tgt := 1057) hx hb d_la_law_1035 (by decide) (fun c1035 => ?_) (fun c1035 => ?_)
  · refine lv_goto (tgt := 1171) hx hb d_la_law_1057 (by decide) ?_
    refine W.widen (k := K + 8) (n := N + 50) (by omega) (by omega) ?_
    exact kk _ _ _ _ _ ⟨u1, u2, u3, u4, u5, u6, u7, M2, D2, fk2, tp2, pt2, pd2, ov2, hcl2, hQ2, ho2⟩ hG (lv_sub hl [2, 3, 4, 5, 6] rfl)
  · refine lv_aload_n hx hb d_la_law_1038 rfl (lv_at hl 3 rfl) ?_
    refine lv_iconst (v := nI 0) hx hb d_la_law_1039 (by decide) ?_
    refine g_lald S hE.1 hG.1 ho2 0 rfl (vp_in_nI (by omega) (by omega)) d_la_law_1040 ?_
    refine g_topl (congrArg ov2 (nI_clamp (show 0 < 2 ^ 31 by omega))) ?_
    refine lv_iload hx hb d_la_law_1041 (lv_at hl 0 rfl) ?_
    refine lv_if_eq (tgt := 1050) hx hb d_la_law_1043 (by decide) (fun c1043 => ?_) (fun c1043 => ?_)
    · refine lv_lconst (v := 0) hx hb d_la_law_1050 (by decide) ?_
      refine W.lcmp hx hb d_la_law_1051 ?_
      refine lv_if_eq (tgt := 1057) hx hb d_la_law_1052 (by decide) (fun c1052 => ?_) (fun c1052 => absurd c1052 (not_not_intro ((lg_cmp_eq _ _).mpr ((ha2 c1035).trans (zl_0 c1043)))))
      refine lv_goto (tgt := 1171) hx hb d_la_law_1057 (by decide) ?_
      refine W.widen (k := K + 8) (n := N + 50) (by omega) (by omega) ?_
      exact kk _ _ _ _ _ ⟨u1, u2, u3, u4, u5, u6, u7, M2, D2, fk2, tp2, pt2, pd2, ov2, hcl2, hQ2, ho2⟩ hG (lv_sub hl [2, 3, 4, 5, 6] rfl)
    · refine lv_lconst (v := 1) hx hb d_la_law_1046 (by decide) ?_
      refine lv_goto (tgt := 1051) hx hb d_la_law_1047 (by decide) ?_
      refine W.lcmp hx hb d_la_law_1051 ?_
      refine lv_if_eq (tgt := 1057) hx hb d_la_law_1052 (by decide) (fun c1052 => ?_) (fun c1052 => absurd c1052 (not_not_intro ((lg_cmp_eq _ _).mpr ((ha2 c1035).trans (zl_1 c1043)))))
      refine lv_goto (tgt := 1171) hx hb d_la_law_1057 (by decide) ?_
      refine W.widen (k := K + 8) (n := N + 50) (by omega) (by omega) ?_
      exact kk _ _ _ _ _ ⟨u1, u2, u3, u4, u5, u6, u7, M2, D2, fk2, tp2, pt2, pd2, ov2, hcl2, hQ2, ho2⟩ hG (lv_sub hl [2, 3, 4, 5, 6] rfl)
set_option maxHeartbeats 600000 in
set_option maxRecDepth 100000 in
theorem st_16 {p : Program} {l : Launch} {e : Env} {s : State} {m : MethodId} {below : List Frame} {meth : Method} {c : Code} {Q : State → Prop} {Z : gZ} {b L x mo o C E i K N : Nat} {xs : Nat → Int32} {th : Int32} (F : lwF p l s m c Z b L xs) {G : gh} {H : Heap} {locs : List Loc} {ls : Array Slot} (hI : lwI Z G x mo o C E th) (hG : gS (gA (fun _ => none) s.heap.size) s.heap Z.1 cls G H locs) (hl : lv_has ls 8 [(4, .int (nI i)), (3, .ref o), (2, .ref mo), (1, .ref x), (0, .ref b)]) (hi : i + 5 ≤ L) (hKc : K + 8 ≤ room_1.cells) (hKs : N + 50 ≤ room_1.slots) (kk : ∀ (G : gh) (H : Heap) (locs : List Loc) (ls : Array Slot) (th : Int32), lwI Z G x mo o C E th → gS (gA (fun _ => none) s.heap.size) s.heap Z.1 cls G H locs → lv_has ls 8 [(4, .int (nI i)), (3, .ref o), (2, .ref mo), (1, .ref x), (0, .ref b)] → W p l e room_1 s m #[Value.ref b] below meth c H locs (K + 8) (N + 50) Q (F0 m 1171 ls [])) : W p l e room_1 s m #[Value.ref b] below meth c H locs K N Q (F0 m 1060 ls []) := by
  obtain ⟨S, hl9, hE, hX, hN, hXs, hbl, hL⟩ := F
  have hx := S.1
  have hb := S.2.1
  have hbA := lw_nA hbl
  obtain ⟨u1, u2, u3, u4, u5, u6, u7, M, D, fk, tp, pt, pd, ov, hcl, hQ, ho⟩ := hI
  have hbd := moQ_bd hQ
  refine lv_aload_n hx hb d_la_law_1060 rfl (lv_at hl 3 rfl) ?_
  refine lv_aload_n hx hb d_la_law_1061 rfl (lv_at hl 4 rfl) ?_
  refine lv_iload hx hb d_la_law_1062 (lv_at hl 0 rfl) ?_
  refine lv_iconst (v := nI 1) hx hb d_la_law_1064 (by decide) ?_
  refine lv_iadd hx hb d_la_law_1065 ?_
  refine g_topi (y := nI (i + 1)) (nI_add i 1) ?_
  refine va_sld hx hb hXs hbl hbA hG.2.2.1 (vp_in_nI (by omega) (by omega)) d_la_law_1066 ?_
  refine g_topi (congrArg xs (nI_clamp (show (i + 1) < 2 ^ 31 by omega))) ?_
  refine lv_aload_n hx hb d_la_law_1067 rfl (lv_at hl 1 rfl) ?_
  refine g_wi hG (g_runSW (As := [.ref x, .int (xs (i + 1)), .ref o]) (rest := []) S lk_la_145 k_la_shifts (c_la_shifts l hl9 Z G H.size x o hcl ho hbd (xs (i + 1))) ⟨rfl, rfl⟩ ⟨(Nat.le_of_ble_eq_true rfl), (Nat.le_of_ble_eq_true rfl)⟩ (gPyS hG hE hX hN) rfl hl.1 rfl (Nat.le_of_ble_eq_true rfl) d_la_law_1068 ⟨(by omega), (by omega)⟩) (fun k1068 G1 H locs hA hG => ?_)
  have hk1 : kX mE G G1 := by obtain ⟨_, _, h, _⟩ := hA; exact h
  have hQ1 := moQ_km hQ hk1
  obtain ⟨fm1, hm1⟩ := moQ_cell hQ1
  refine lv_istore (lv' := [(5, .int k1068), (4, .int (nI i)), (3, .ref o), (2, .ref mo), (1, .ref x), (0, .ref b)]) hx hb d_la_law_1071 hl (by decide) rfl (fun ls hl => ?_)
  refine lv_aload_n hx hb d_la_law_1073 rfl (lv_at hl 3 rfl) ?_
  refine lv_aload_n hx hb d_la_law_1074 rfl (lv_at hl 5 rfl) ?_
  refine lv_iload hx hb d_la_law_1075 (lv_at hl 1 rfl) ?_
  refine lv_iconst (v := nI 1) hx hb d_la_law_1077 (by decide) ?_
  refine lv_iadd hx hb d_la_law_1078 ?_
  refine g_topi (y := nI (i + 1)) (nI_add i 1) ?_
  refine va_sld hx hb hXs hbl hbA hG.2.2.1 (vp_in_nI (by omega) (by omega)) d_la_law_1079 ?_
  refine g_topi (congrArg xs (nI_clamp (show (i + 1) < 2 ^ 31 by omega))) ?_
  refine g_wl hG (g_runV (As := [.int (xs (i + 1))]) (rest := []) S lk_la_147 k_mo_shifts (c_mo_shifts l Z G1 H.size mo hQ1 (xs (i + 1))) ⟨rfl, rfl⟩ ⟨(Nat.le_of_ble_eq_true rfl), (Nat.le_of_ble_eq_true rfl)⟩ (gPwV hG.1 hE hm1 rfl) rfl hl.1 rfl (Nat.le_of_ble_eq_true rfl) d_la_law_1080 ⟨(by omega), (by omega)⟩) (fun b1080 G2 H locs hB hG => ?_)
  obtain ⟨M2, D2, fk2, tp2, pt2, pd2, ov2, hcl2, hQ2, ho2, ha2⟩ := j_shifts hQ hA hB
  refine lv_lstore (lv' := [(6, .long b1080), (5, .int k1068), (4, .int (nI i)), (3, .ref o), (2, .ref mo), (1, .ref x), (0, .ref b)]) hx hb d_la_law_1083 hl (by decide) rfl (fun ls hl => ?_)
  refine lv_aload_n hx hb d_la_law_1085 rfl (lv_at hl 4 rfl) ?_
  obtain ⟨cf, mf, ff, gf, sf, tf, bf, hP2, -⟩ := id hQ2
  refine g_reti (g_runV (As := []) (rest := []) S lk_la_87 k_mo_thrown (c_mo_thrown l Z G2 mo hP2) ⟨rfl, rfl⟩ ⟨(Nat.le_of_ble_eq_true rfl), (Nat.le_of_ble_eq_true rfl)⟩ (gPreV hG.1 hE hP2.1 rfl) rfl hl.1 rfl (Nat.le_of_ble_eq_true rfl) d_la_law_1086 ⟨(by omega), (by omega)⟩) (fun r1086 h1086 => ?_)
  refine g_topi (y := k1068) h1086 ?_
  refine lv_iload hx hb d_la_law_1089 (lv_at hl 1 rfl) ?_
  refine lv_icmp_eq (tgt := 1096) hx hb d_la_law_1091 (by decide) (fun c1091 => ?_) (fun c1091 => absurd c1091 (not_not_intro rfl))
  refine lv_iload hx hb d_la_law_1096 (lv_at hl 1 rfl) ?_
  refine lv_if_ne (tgt := 1112) hx hb d_la_law_1098 (by decide) (fun c1098 => ?_) (fun c1098 => ?_)
  · refine lv_goto (tgt := 1171) hx hb d_la_law_1112 (by decide) ?_
    refine W.widen (k := K + 8) (n := N + 50) (by omega) (by omega) ?_
    exact kk _ _ _ _ _ ⟨u1, u2, u3, u4, u5, u6, u7, M2, D2, fk2, tp2, pt2, pd2, ov2, hcl2, hQ2, ho2⟩ hG (lv_sub hl [2, 3, 4, 5, 6] rfl)
  · refine lv_aload_n hx hb d_la_law_1101 rfl (lv_at hl 3 rfl) ?_
    refine lv_iconst (v := nI 0) hx hb d_la_law_1102 (by decide) ?_
    refine g_lald S hE.1 hG.1 ho2 0 rfl (vp_in_nI (by omega) (by omega)) d_la_law_1103 ?_
    refine g_topl (congrArg ov2 (nI_clamp (show 0 < 2 ^ 31 by omega))) ?_
    refine lv_lload hx hb d_la_law_1104 (lv_at hl 0 rfl) ?_
    refine W.lcmp hx hb d_la_law_1106 ?_
    refine lv_if_eq (tgt := 1112) hx hb d_la_law_1107 (by decide) (fun c1107 => ?_) (fun c1107 => absurd c1107 (not_not_intro ((lg_cmp_eq _ _).mpr (ha2 c1098))))
    refine lv_goto (tgt := 1171) hx hb d_la_law_1112 (by decide) ?_
    refine W.widen (k := K + 8) (n := N + 50) (by omega) (by omega) ?_
    exact kk _ _ _ _ _ ⟨u1, u2, u3, u4, u5, u6, u7, M2, D2, fk2, tp2, pt2, pd2, ov2, hcl2, hQ2, ho2⟩ hG (lv_sub hl [2, 3, 4, 5, 6] rfl)
set_option maxHeartbeats 600000 in
set_option maxRecDepth 100000 in
theorem st_17 {p : Program} {l : Launch} {e : Env} {s : State} {m : MethodId} {below : List Frame} {meth : Method} {c : Code} {Q : State → Prop} {Z : gZ} {b L x mo o C E i K N : Nat} {xs : Nat → Int32} {th : Int32} (F : lwF p l s m c Z b L xs) {G : gh} {H : Heap} {locs : List Loc} {ls : Array Slot} (hI : lwI Z G x mo o C E th) (hG : gS (gA (fun _ => none) s.heap.size) s.heap Z.1 cls G H locs) (hl : lv_has ls 8 [(4, .int (nI i)), (3, .ref o), (2, .ref mo), (1, .ref x), (0, .ref b)]) (hi : i + 5 ≤ L) (hKc : K + 8 ≤ room_1.cells) (hKs : N + 50 ≤ room_1.slots) (kk : ∀ (G : gh) (H : Heap) (locs : List Loc) (ls : Array Slot) (th : Int32), lwI Z G x mo o C E th → gS (gA (fun _ => none) s.heap.size) s.heap Z.1 cls G H locs → lv_has ls 8 [(4, .int (nI i)), (3, .ref o), (2, .ref mo), (1, .ref x), (0, .ref b)] → W p l e room_1 s m #[Value.ref b] below meth c H locs (K + 8) (N + 50) Q (F0 m 1171 ls [])) : W p l e room_1 s m #[Value.ref b] below meth c H locs K N Q (F0 m 1115 ls []) := by
  obtain ⟨S, hl9, hE, hX, hN, hXs, hbl, hL⟩ := F
  have hx := S.1
  have hb := S.2.1
  have hbA := lw_nA hbl
  obtain ⟨u1, u2, u3, u4, u5, u6, u7, M, D, fk, tp, pt, pd, ov, hcl, hQ, ho⟩ := hI
  have hbd := moQ_bd hQ
  refine lv_aload_n hx hb d_la_law_1115 rfl (lv_at hl 3 rfl) ?_
  refine lv_aload_n hx hb d_la_law_1116 rfl (lv_at hl 4 rfl) ?_
  refine lv_iload hx hb d_la_law_1117 (lv_at hl 0 rfl) ?_
  refine lv_iconst (v := nI 1) hx hb d_la_law_1119 (by decide) ?_
  refine lv_iadd hx hb d_la_law_1120 ?_
  refine g_topi (y := nI (i + 1)) (nI_add i 1) ?_
  refine va_sld hx hb hXs hbl hbA hG.2.2.1 (vp_in_nI (by omega) (by omega)) d_la_law_1121 ?_
  refine g_topi (congrArg xs (nI_clamp (show (i + 1) < 2 ^ 31 by omega))) ?_
  refine lv_aload_n hx hb d_la_law_1122 rfl (lv_at hl 1 rfl) ?_
  refine g_wi hG (g_runSW (As := [.ref x, .int (xs (i + 1)), .ref o]) (rest := []) S lk_la_148 k_la_count (c_la_count l hl9 Z G H.size x o hcl ho hbd (xs (i + 1))) ⟨rfl, rfl⟩ ⟨(Nat.le_of_ble_eq_true rfl), (Nat.le_of_ble_eq_true rfl)⟩ (gPyS hG hE hX hN) rfl hl.1 rfl (Nat.le_of_ble_eq_true rfl) d_la_law_1123 ⟨(by omega), (by omega)⟩) (fun k1123 G1 H locs hA hG => ?_)
  have hk1 : kX mE G G1 := by obtain ⟨_, _, h, _⟩ := hA; exact h
  have hQ1 := moQ_km hQ hk1
  obtain ⟨fm1, hm1⟩ := moQ_cell hQ1
  refine lv_istore (lv' := [(5, .int k1123), (4, .int (nI i)), (3, .ref o), (2, .ref mo), (1, .ref x), (0, .ref b)]) hx hb d_la_law_1126 hl (by decide) rfl (fun ls hl => ?_)
  refine lv_aload_n hx hb d_la_law_1128 rfl (lv_at hl 3 rfl) ?_
  refine lv_aload_n hx hb d_la_law_1129 rfl (lv_at hl 5 rfl) ?_
  refine lv_iload hx hb d_la_law_1130 (lv_at hl 1 rfl) ?_
  refine lv_iconst (v := nI 1) hx hb d_la_law_1132 (by decide) ?_
  refine lv_iadd hx hb d_la_law_1133 ?_
  refine g_topi (y := nI (i + 1)) (nI_add i 1) ?_
  refine va_sld hx hb hXs hbl hbA hG.2.2.1 (vp_in_nI (by omega) (by omega)) d_la_law_1134 ?_
  refine g_topi (congrArg xs (nI_clamp (show (i + 1) < 2 ^ 31 by omega))) ?_
  refine g_wi hG (g_runV (As := [.int (xs (i + 1))]) (rest := []) S lk_la_150 k_mo_count (c_mo_count l Z G1 H.size mo hQ1 (xs (i + 1))) ⟨rfl, rfl⟩ ⟨(Nat.le_of_ble_eq_true rfl), (Nat.le_of_ble_eq_true rfl)⟩ (gPwV hG.1 hE hm1 rfl) rfl hl.1 rfl (Nat.le_of_ble_eq_true rfl) d_la_law_1135 ⟨(by omega), (by omega)⟩) (fun b1135 G2 H locs hB hG => ?_)
  obtain ⟨M2, D2, fk2, tp2, pt2, pd2, ov2, hcl2, hQ2, ho2, ha2⟩ := j_count hQ hA hB
  refine lv_istore (lv' := [(6, .int b1135), (5, .int k1123), (4, .int (nI i)), (3, .ref o), (2, .ref mo), (1, .ref x), (0, .ref b)]) hx hb d_la_law_1138 hl (by decide) rfl (fun ls hl => ?_)
  refine lv_aload_n hx hb d_la_law_1140 rfl (lv_at hl 4 rfl) ?_
  obtain ⟨cf, mf, ff, gf, sf, tf, bf, hP2, -⟩ := id hQ2
  refine g_reti (g_runV (As := []) (rest := []) S lk_la_87 k_mo_thrown (c_mo_thrown l Z G2 mo hP2) ⟨rfl, rfl⟩ ⟨(Nat.le_of_ble_eq_true rfl), (Nat.le_of_ble_eq_true rfl)⟩ (gPreV hG.1 hE hP2.1 rfl) rfl hl.1 rfl (Nat.le_of_ble_eq_true rfl) d_la_law_1141 ⟨(by omega), (by omega)⟩) (fun r1141 h1141 => ?_)
  refine g_topi (y := k1123) h1141 ?_
  refine lv_iload hx hb d_la_law_1144 (lv_at hl 1 rfl) ?_
  refine lv_icmp_eq (tgt := 1151) hx hb d_la_law_1146 (by decide) (fun c1146 => ?_) (fun c1146 => absurd c1146 (not_not_intro rfl))
  refine lv_iload hx hb d_la_law_1151 (lv_at hl 1 rfl) ?_
  refine lv_if_ne (tgt := 1168) hx hb d_la_law_1153 (by decide) (fun c1153 => ?_) (fun c1153 => ?_)
  · refine lv_goto (tgt := 1171) hx hb d_la_law_1168 (by decide) ?_
    refine W.widen (k := K + 8) (n := N + 50) (by omega) (by omega) ?_
    exact kk _ _ _ _ _ ⟨u1, u2, u3, u4, u5, u6, u7, M2, D2, fk2, tp2, pt2, pd2, ov2, hcl2, hQ2, ho2⟩ hG (lv_sub hl [2, 3, 4, 5, 6] rfl)
  · refine lv_aload_n hx hb d_la_law_1156 rfl (lv_at hl 3 rfl) ?_
    refine lv_iconst (v := nI 0) hx hb d_la_law_1157 (by decide) ?_
    refine g_lald S hE.1 hG.1 ho2 0 rfl (vp_in_nI (by omega) (by omega)) d_la_law_1158 ?_
    refine g_topl (congrArg ov2 (nI_clamp (show 0 < 2 ^ 31 by omega))) ?_
    refine lv_iload hx hb d_la_law_1159 (lv_at hl 0 rfl) ?_
    refine lv_i2l hx hb d_la_law_1161 rfl ?_
    refine W.lcmp hx hb d_la_law_1162 ?_
    refine lv_if_eq (tgt := 1168) hx hb d_la_law_1163 (by decide) (fun c1163 => ?_) (fun c1163 => absurd c1163 (not_not_intro ((lg_cmp_eq _ _).mpr (ha2 c1153))))
    refine lv_goto (tgt := 1171) hx hb d_la_law_1168 (by decide) ?_
    refine W.widen (k := K + 8) (n := N + 50) (by omega) (by omega) ?_
    exact kk _ _ _ _ _ ⟨u1, u2, u3, u4, u5, u6, u7, M2, D2, fk2, tp2, pt2, pd2, ov2, hcl2, hQ2, ho2⟩ hG (lv_sub hl [2, 3, 4, 5, 6] rfl)
