/-! Methods that write, methods that throw, in these words. -/
theorem gup_keep {G : gh} {a b : Nat} {e0 e e1 : va_E} (ha : G a = some e0) (hb : G b = some e1) (hne : e0 ≠ e1) : gup G a e b = some e1 := by
  rw [gup_ne]
  · exact hb
  · intro h
    subst h
    rw [ha] at hb
    exact hne (Option.some.inj hb)
theorem gup_new {G : gh} {a b : Nat} {e e1 : va_E} (ha : G a = none) (hb : G b = some e1) : gup G a e b = some e1 := by
  rw [gup_ne]
  · exact hb
  · intro h
    subst h
    rw [ha] at hb
    cases hb
/-- the world behind a method that writes -/
def gW (Z : gZ) (G : gh) (sz : Nat) : gh → State → Prop := fun G' t => gP Z.1 cls G' t.heap ∧ ∀ a, G' a ≠ none → gA G sz a
/-- what a throw needs: the texts, Throwable's two statics -/
def gXt (A : Nat → Prop) (U : State) (H : Heap) : Prop := (∀ q ∈ gStr, ∃ sa : Nat, vk_R "PackSeeds" q.1 q.2 sa U) ∧ vx_Zq Bundle.tN "UNASSIGNED_STACK" Bundle.steD A U H ∧ vx_Zq Bundle.tN "SUPPRESSED_SENTINEL" Bundle.listD A U H
theorem gXt.go {A B : Nat → Prop} {s U : State} {H0 H : Heap} {locs : List Loc} (h : gXt A s H0) (hS : va_S A H0 H locs) (hAB : ∀ q, B q → A q) (hW : s.WarmedH U.vm) : gXt B U H :=
  ⟨fun q hq => by obtain ⟨sa, h1⟩ := h.1 q hq; exact ⟨sa, vk_R.warm hW h1⟩, vx_Zq.moved hW.alike ((h.2.1.kept hS.2.1).narrow hAB), vx_Zq.moved hW.alike ((h.2.2.kept hS.2.1).narrow hAB)⟩
def gPw (Z : gZ) (G : gh) (sz : Nat) : State → Prop := fun U => U.heap.size = sz ∧ gPure Z G U
def gPx (Z : gZ) (G : gh) (sz : Nat) : State → Prop := fun U => U.heap.size = sz ∧ gPure Z G U ∧ gXt (gA G sz) U U.heap
theorem gPw.blind {Z : gZ} {G : gh} {sz : Nat} {av : List Value} : FrameBlind (va_Pc av (gPw Z G sz)) := fun a U g mk q => ⟨q.1, q.2.1, q.2.2.1, gE.same (s := U) (U := U.calling g mk a) rfl q.2.2.2⟩
theorem gPx.blind {Z : gZ} {G : gh} {sz : Nat} {av : List Value} : FrameBlind (va_Pc av (gPx Z G sz)) := fun a U g mk q => ⟨q.1, q.2.1, ⟨q.2.2.1.1, gE.same (s := U) (U := U.calling g mk a) rfl q.2.2.1.2⟩, ⟨fun z hz => by obtain ⟨sa, h1⟩ := q.2.2.2.1 z hz; exact ⟨sa, vk_R.warm (s := U) (U := U.calling g mk a) (State.WarmedH.refl U) h1⟩, vx_Zq.moved (u := U) (U := U.calling g mk a) (Vm.Alike.refl U.vm) q.2.2.2.2.1, vx_Zq.moved (u := U) (U := U.calling g mk a) (Vm.Alike.refl U.vm) q.2.2.2.2.2⟩⟩
theorem gPwS {Z : gZ} {G : gh} {H : Heap} {s : State} {As : List Value} (hG : gP Z.1 cls G H) (hE : gE Z s) : PreS s H (va_Pc As (gPw Z G H.size)) As :=
  ⟨gPw.blind, fun U hU hW => ⟨rfl, by rw [hU], by rw [hU]; exact hG, hE.warm hW⟩⟩
theorem gPwV {Z : gZ} {G : gh} {H : Heap} {s : State} {C : String} {T : u_T} {N ci b : Nat} {fs As : List Value} (hG : gP Z.1 cls G H) (hE : gE Z s) (he : G b = some (.inr (ci, fs))) (hc : cls[ci]? = some (C, T, N)) : PreV s H C b (va_Pc (.ref b :: As) (gPw Z G H.size)) As :=
  ⟨gPw.blind, va_recv hE.1 (hG.one he) (q0 := 0) hc rfl, fun U hU hW => ⟨rfl, by rw [hU], by rw [hU]; exact hG, hE.warm hW⟩⟩
theorem gPxS {Z : gZ} {G : gh} {A : Nat → Prop} {H0 H : Heap} {locs : List Loc} {s : State} {As : List Value} (hG : gS A H0 Z.1 cls G H locs) (hE : gE Z s) (hX : gXt A s H0) : PreS s H (va_Pc As (gPx Z G H.size)) As :=
  ⟨gPx.blind, fun U hU hW => ⟨rfl, by rw [hU], ⟨by rw [hU]; exact hG.1, hE.warm hW⟩, by rw [hU]; exact hX.go hG.2.2.1 hG.free hW⟩⟩
theorem gPxV {Z : gZ} {G : gh} {A : Nat → Prop} {H0 H : Heap} {locs : List Loc} {s : State} {C : String} {T : u_T} {N ci b : Nat} {fs As : List Value} (hG : gS A H0 Z.1 cls G H locs) (hE : gE Z s) (hX : gXt A s H0) (he : G b = some (.inr (ci, fs))) (hc : cls[ci]? = some (C, T, N)) : PreV s H C b (va_Pc (.ref b :: As) (gPx Z G H.size)) As :=
  ⟨gPx.blind, va_recv hE.1 (hG.1.one he) (q0 := 0) hc rfl, fun U hU hW => ⟨rfl, by rw [hU], ⟨by rw [hU]; exact hG.1, hE.warm hW⟩, by rw [hU]; exact hX.go hG.2.2.1 hG.free hW⟩⟩
/-- a throw: which class, nothing old written -/
def gXC (XP : String → Prop) (sz : Nat) : String → State → State → Prop := vx_X (S := Unit) (fun _ => True) (fun E _ _ => XP E) (fun q => sz ≤ q)
section GWR
variable {p : Program} {l : Launch} {e : Env} {R : Room} {s : State} {m : MethodId} {args : Array Value} {below : List Frame} {meth : Method} {c : Code} {H : Heap} {locs : List Loc} {cells slots : Nat} {Q : State → Prop}
variable {cc bytes : ByteArray} {pc nL maxL mc ms n index b : Nat} {ret : Option FieldType} {ls : Array Slot} {st0 rest As : List Value} {own : String} {y : MethodName} {rm : Room} {Pc : Array Value → State → Prop} {Qc : Array Value → State → Outcome → State → Prop} {XC : String → State → State → Prop} {free : Addr → Prop} {Z : gZ} {G : gh} {A : Nat → Prop} {H0 : Heap} {aa : Array Value}
/-- calls of methods that write -/
theorem g_wi {post : Int32 → gh → Prop} (hG : gS A H0 Z.1 cls G H locs) (hr : va_Run p l e R s m args below meth c H locs cells slots mc ms (F0 m pc ls st0) rest (va_Qi post (gW Z G H.size) (gA G H.size) aa) (gA G H.size))
    (kk : ∀ (r : Int32) (G' : gh) (H1 : Heap) (locs1 : List Loc), post r G' → gS A H0 Z.1 cls G' H1 locs1 → W p l e R s m args below meth c H1 locs1 (cells + mc) (slots + ms) Q (F0 m (pc + 3) ls (.int r :: rest))) : W p l e R s m args below meth c H locs cells slots Q (F0 m pc ls st0) :=
  va_calli hr hG.2.2.1 (fun q _ h => hG.free q h) hG.free (fun r u t H1 locs1 ht _ hp hB _ _ hS => kk r u H1 locs1 hp (hG.back (by rw [← ht]; exact hB.1) hB.2 hS))
theorem g_wl {post : Int64 → gh → Prop} (hG : gS A H0 Z.1 cls G H locs) (hr : va_Run p l e R s m args below meth c H locs cells slots mc ms (F0 m pc ls st0) rest (va_Ql post (gW Z G H.size) (gA G H.size) aa) (gA G H.size))
    (kk : ∀ (r : Int64) (G' : gh) (H1 : Heap) (locs1 : List Loc), post r G' → gS A H0 Z.1 cls G' H1 locs1 → W p l e R s m args below meth c H1 locs1 (cells + mc) (slots + ms) Q (F0 m (pc + 3) ls (.long r :: rest))) : W p l e R s m args below meth c H locs cells slots Q (F0 m pc ls st0) :=
  va_calll hr hG.2.2.1 (fun q _ h => hG.free q h) hG.free (fun r u t H1 locs1 ht _ hp hB _ _ hS => kk r u H1 locs1 hp (hG.back (by rw [← ht]; exact hB.1) hB.2 hS))
theorem g_wv {post : gh → Prop} (hG : gS A H0 Z.1 cls G H locs) (hr : va_Run p l e R s m args below meth c H locs cells slots mc ms (F0 m pc ls st0) rest (va_Qv post (gW Z G H.size) (gA G H.size) aa) (gA G H.size))
    (kk : ∀ (G' : gh) (H1 : Heap) (locs1 : List Loc), post G' → gS A H0 Z.1 cls G' H1 locs1 → W p l e R s m args below meth c H1 locs1 (cells + mc) (slots + ms) Q (F0 m (pc + 3) ls rest)) : W p l e R s m args below meth c H locs cells slots Q (F0 m pc ls st0) :=
  va_callv hr hG.2.2.1 (fun q _ h => hG.free q h) hG.free (fun u t H1 locs1 ht _ hp hB _ _ hS => kk u H1 locs1 hp (hG.back (by rw [← ht]; exact hB.1) hB.2 hS))
/-- calls of methods that may throw -/
theorem g_xrunV (S : CallFix p m c cc nL s args Gall own) (L : gLV own index y n) (k0 : Cond.code y bytes maxL ret ∈ Gall) (hM : vx_Met l y (Cond.code y bytes maxL ret :: Gall) rm Pc Qc XC mc ms free) (hrm : rm.cells = mc ∧ rm.slots = ms) (hR : rm.frames + 1 ≤ R.frames ∧ 8 + (maxL + 11) + rm.locals ≤ R.locals) (hp : PreV s H y.cls b Pc As) (hn : As.length = n) (hsize : ls.size = nL) (hst : st0 = As.reverse ++ .ref b :: rest) (hW : (rest.map fun v => v.category).sum ≤ 8) (hdg : decode cc pc = .ok (.invokevirtual index, 3)) (hf : cells + mc ≤ R.cells ∧ slots + ms ≤ R.slots) :
    vx_Run p l e R s m args below meth c H locs cells slots mc ms (F0 m pc ls st0) rest (Qc (Value.ref b :: As).toArray) XC free :=
  vx_runV (g := F0 m pc ls st0) S hM ⟨g_callB S k0 L.1 L.2.2.2.1 L.2.2.2.2 hrm hR, S.2.2.2.2 _ L.2.1, S.2.2.2.2 _ L.2.2.1⟩ hp rfl hn hsize hst (lv_room hW) hdg hf
theorem g_xrunS (S : CallFix p m c cc nL s args Gall own) (L : gLS own index y n) (k0 : Cond.code y bytes maxL ret ∈ Gall) (hM : vx_Met l y (Cond.code y bytes maxL ret :: Gall) rm Pc Qc XC mc ms free) (hrm : rm.cells = mc ∧ rm.slots = ms) (hR : rm.frames + 1 ≤ R.frames ∧ 8 + (maxL + 11) + rm.locals ≤ R.locals) (hp : PreS s H Pc As) (hn : As.length = n) (hsize : ls.size = nL) (hst : st0 = As.reverse ++ rest) (hW : (rest.map fun v => v.category).sum ≤ 8) (hdg : decode cc pc = .ok (.invokestatic index, 3)) (hf : cells + mc ≤ R.cells ∧ slots + ms ≤ R.slots) :
    vx_Run p l e R s m args below meth c H locs cells slots mc ms (F0 m pc ls st0) rest (Qc As.toArray) XC free :=
  vx_runS (g := F0 m pc ls st0) S hM ⟨g_callB S k0 L.1 L.2.2.1 L.2.2.2 hrm hR, S.2.2.2.2 _ L.2.1⟩ hp rfl hn hsize hst (lv_room hW) hdg hf
/-- where a call has thrown: the heap's old cells are as they were -/
def gThr (p : Program) (l : Launch) (e : Env) (R : Room) (s : State) (m : MethodId) (args : Array Value) (below : List Frame) (meth : Method) (c : Code) (H : Heap) (locs : List Loc) (cells slots : Nat) (Q : State → Prop) (g : JFrame) (XP : String → Prop) : Prop :=
  ∀ (E : String) (ce : Cell) (q9 : Addr) (H1 : Heap), XP E → H.size ≤ H1.size → (∀ q : Nat, q < H.size → H1[q]? = H[q]?) → H1[q9]? = some ce → ce.vm = .none → s.vm.findClass E = some ce.cls → vx_W p l e R s m args below meth c H1 locs cells slots Q g q9
theorem g_xreti {post : Int32 → Prop} {XP : String → Prop} (hz : s.heap.size ≤ H.size) (hr : vx_Run p l e R s m args below meth c H locs cells slots mc ms (F0 m pc ls st0) rest (vp_Si post aa) (gXC XP H.size) (fun q => H.size ≤ q))
    (kx : gThr p l e R s m args below meth c H locs (cells + mc) (slots + ms) Q (F0 m pc ls rest) XP)
    (kk : ∀ r : Int32, post r → W p l e R s m args below meth c H locs (cells + mc) (slots + ms) Q (F0 m (pc + 3) ls (.int r :: rest))) : W p l e R s m args below meth c H locs cells slots Q (F0 m pc ls st0) := by
  intro T hT X
  rcases hr T hT X with ⟨v, st₀, t, T', L, h0, X', hL, e1, e2, ⟨r, hv, hp, hh⟩, st⟩ | ⟨q, st₀, t, T', L, E, ce, h0, X', hL, e1, e2, ⟨u, -, hp, hF⟩, hce, hcv, hcl, st⟩
  · cases hv
    obtain ⟨t2, a1, b1⟩ := kk r hp T' (by rw [e1, hh, h0]) (Stand.forget X' (fun q h => Nat.le_trans hz (hL q h)))
    exact ⟨t2, st t2 a1, b1⟩
  · obtain ⟨hz1, hk1⟩ := hF
    rw [h0] at hz1 hk1
    obtain ⟨t2, a1, b1⟩ := kx E ce q T'.heap hp (by rw [e1]; exact hz1) (fun q h => by rw [e1]; exact hk1 q h (by omega)) (by rw [e1]; exact hce) hcv hcl T' rfl (Stand.forget X' (fun q h => Nat.le_trans hz (hL q h)))
    exact ⟨t2, st.trans a1, b1⟩
theorem g_xretl {post : Int64 → Prop} {XP : String → Prop} (hz : s.heap.size ≤ H.size) (hr : vx_Run p l e R s m args below meth c H locs cells slots mc ms (F0 m pc ls st0) rest (vp_Sl post aa) (gXC XP H.size) (fun q => H.size ≤ q))
    (kx : gThr p l e R s m args below meth c H locs (cells + mc) (slots + ms) Q (F0 m pc ls rest) XP)
    (kk : ∀ r : Int64, post r → W p l e R s m args below meth c H locs (cells + mc) (slots + ms) Q (F0 m (pc + 3) ls (.long r :: rest))) : W p l e R s m args below meth c H locs cells slots Q (F0 m pc ls st0) := by
  intro T hT X
  rcases hr T hT X with ⟨v, st₀, t, T', L, h0, X', hL, e1, e2, ⟨r, hv, hp, hh⟩, st⟩ | ⟨q, st₀, t, T', L, E, ce, h0, X', hL, e1, e2, ⟨u, -, hp, hF⟩, hce, hcv, hcl, st⟩
  · cases hv
    obtain ⟨t2, a1, b1⟩ := kk r hp T' (by rw [e1, hh, h0]) (Stand.forget X' (fun q h => Nat.le_trans hz (hL q h)))
    exact ⟨t2, st t2 a1, b1⟩
  · obtain ⟨hz1, hk1⟩ := hF
    rw [h0] at hz1 hk1
    obtain ⟨t2, a1, b1⟩ := kx E ce q T'.heap hp (by rw [e1]; exact hz1) (fun q h => by rw [e1]; exact hk1 q h (by omega)) (by rw [e1]; exact hce) hcv hcl T' rfl (Stand.forget X' (fun q h => Nat.le_trans hz (hL q h)))
    exact ⟨t2, st.trans a1, b1⟩
theorem g_xretq {post : Option Nat → Prop} {XP : String → Prop} (hz : s.heap.size ≤ H.size) (hr : vx_Run p l e R s m args below meth c H locs cells slots mc ms (F0 m pc ls st0) rest (va_Sq post aa) (gXC XP H.size) (fun q => H.size ≤ q))
    (kx : gThr p l e R s m args below meth c H locs (cells + mc) (slots + ms) Q (F0 m pc ls rest) XP)
    (kk : ∀ r : Option Nat, post r → W p l e R s m args below meth c H locs (cells + mc) (slots + ms) Q (F0 m (pc + 3) ls (va_rf r :: rest))) : W p l e R s m args below meth c H locs cells slots Q (F0 m pc ls st0) := by
  intro T hT X
  rcases hr T hT X with ⟨v, st₀, t, T', L, h0, X', hL, e1, e2, ⟨r, hv, hp, hh⟩, st⟩ | ⟨q, st₀, t, T', L, E, ce, h0, X', hL, e1, e2, ⟨u, -, hp, hF⟩, hce, hcv, hcl, st⟩
  · cases hv
    obtain ⟨t2, a1, b1⟩ := kk r hp T' (by rw [e1, hh, h0]) (Stand.forget X' (fun q h => Nat.le_trans hz (hL q h)))
    exact ⟨t2, st t2 a1, b1⟩
  · obtain ⟨hz1, hk1⟩ := hF
    rw [h0] at hz1 hk1
    obtain ⟨t2, a1, b1⟩ := kx E ce q T'.heap hp (by rw [e1]; exact hz1) (fun q h => by rw [e1]; exact hk1 q h (by omega)) (by rw [e1]; exact hce) hcv hcl T' rfl (Stand.forget X' (fun q h => Nat.le_trans hz (hL q h)))
    exact ⟨t2, st.trans a1, b1⟩
/-- a callee's throw goes on to the caller: no handler here, nothing written yet -/
theorem g_out {XP YP : String → Prop} {mc0 ms0 : Nat} (ht : ∀ x ∈ c.exceptionTable.toList, False) (hlocks : meth.locks = false) (hXY : ∀ E, XP E → YP E) (hf : ∀ z ∈ locs, free z.base) (hc : cells ≤ mc0) (hs : slots ≤ ms0) :
    gThr p l e R s m args below meth c s.heap locs cells slots (vx_MQ below Qc (gXC YP s.heap.size) args s mc0 ms0 free) (F0 m pc ls rest) XP :=
  fun E ce q9 H1 hE hz hk h9 hv hcl => vx_out (fun x hx => (ht x hx).elim) hlocks h9 hv hcl (fun t ht' _ => ⟨(), trivial, hXY E hE, by rw [ht']; exact hz, fun q h1 _ => by rw [ht']; exact hk q h1⟩) hf hc hs
/-- throw new E("text"), nothing written yet -/
theorem g_throw {cls0 text : String} {ik is ic mc0 ms0 : Nat} {YP : String → Prop} (S : CallFix p m c cc nL s args Gall "PackSeeds") (hE : gE Z s) (hl : l.stackTraces = false) (hX : gXt (gA G s.heap.size) s s.heap) (hstr : (is, text) ∈ gStr) (hcls : Bundle.fit cls0 = true)
    (hk : Cond.classLink "PackSeeds" ik cls0 ∈ Gall) (hini : Cond.initialized cls0 ∈ Gall) (hat : ∀ w ∈ vx_atS "PackSeeds" ic cls0 ["java/lang/RuntimeException", "java/lang/Exception"], w ∈ Gall ∨ w ∈ gNw)
    (hgood : ∀ w ∈ Cond.classLink "PackSeeds" ik cls0 :: Cond.initialized cls0 :: vx_atS "PackSeeds" ic cls0 ["java/lang/RuntimeException", "java/lang/Exception"], vx_ot w = true)
    (hlz : ∀ z ∈ locs, free z.base) (hA : ∀ z ∈ locs, gA G s.heap.size z.base) (hsize : ls.size = nL)
    (d0 : decode cc pc = .ok (.new ik, 3)) (d3 : decode cc (pc + 3) = .ok (.dup, 1)) (d4 : decode cc (pc + 4) = .ok (.ldc is, 2)) (d6 : decode cc (pc + 6) = .ok (.invokespecial ic, 3)) (d9 : decode cc (pc + 9) = .ok (.athrow, 1))
    (ht : ∀ x ∈ c.exceptionTable.toList, False) (hRf : 5 < R.frames) (hRl : (rest.map fun v => v.category).sum + 82 ≤ R.locals) (hRc : cells + 1 ≤ R.cells) (hRs : slots + 6 ≤ R.slots) (hlocks : meth.locks = false) (hY : YP cls0) (hc : cells + 1 ≤ mc0) (hs : slots + 6 ≤ ms0) :
    W p l e R s m args below meth c s.heap locs cells slots (vx_MQ below Qc (gXC YP s.heap.size) args s mc0 ms0 free) (F0 m pc ls rest) := by
  obtain ⟨sa, hsa⟩ := hX.1 _ hstr
  refine vx_throwS (sa := sa) (A := gA G s.heap.size) S.1 S.2.1 hl S.2.2.2.1 hcls (by decide +kernel) (S.2.2.2.2 _ hk) (S.2.2.2.2 _ hini) hsa (fun w hw => ?_) hgood hX.2.1 hX.2.2 ⟨Nat.le_refl _, fun _ _ _ => rfl, hA⟩ (hsize.trans S.2.2.1.symm) d0 d3 d4 d6 d9 (fun x hx => (ht x hx).elim) (by simpa using hRf) (by simpa using hRl) hRc hRs hlocks (fun t _ hz hk => ⟨(), trivial, hY, hz, fun q h1 _ => hk q h1⟩) hlz hc hs
  rcases hat w hw with h | h
  · exact S.2.2.2.2 _ h
  · exact va_Nw.use (gNw_on w h) (hE.2 _ h)
end GWR
