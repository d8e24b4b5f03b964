/-! What is fixed for good: the classes' numbers and slots, the array classes' numbers; calls in these words. -/
abbrev gZ : Type := va_G × (Nat → ClassId)
abbrev gT (Z : gZ) : List (ClassId × FieldType) := [(Z.2 0, .long), (Z.2 1, .int), (Z.2 2, .boolean), (Z.2 3, .object "PackSeeds$Pattern")]
def gE (Z : gZ) (U : State) : Prop := va_K Z.1 cls (gT Z) U ∧ gNest U
theorem gE.warm {Z : gZ} {s U : State} (hW : s.WarmedH U.vm) (h : gE Z s) : gE Z U := ⟨va_K.moved hW.alike h.1, h.2.warm hW⟩
theorem gE.same {Z : gZ} {s U : State} (hv : s.vm = U.vm) (h : gE Z s) : gE Z U := ⟨va_K.moved (by rw [hv]; exact Vm.Alike.refl _) h.1, h.2.same hv⟩
def gPure (Z : gZ) (G : gh) : State → Prop := fun U => gP Z.1 cls G U.heap ∧ gE Z U
theorem gPure.blind {Z : gZ} {G : gh} {av : List Value} : FrameBlind (va_Pc av (gPure Z G)) := fun a U g mk q => ⟨q.1, q.2.1, gE.same (s := U) (U := U.calling g mk a) rfl q.2.2⟩
theorem gPreS {Z : gZ} {G : gh} {H : Heap} {s : State} {As : List Value} (hG : gP Z.1 cls G H) (hE : gE Z s) : PreS s H (va_Pc As (gPure Z G)) As :=
  ⟨gPure.blind, fun U hU hW => ⟨rfl, by rw [hU]; exact hG, hE.warm hW⟩⟩
theorem gPreV {Z : gZ} {G : gh} {H : Heap} {s : State} {C : String} {T : u_T} {N ci b : Nat} {fs As : List Value} (hG : gP Z.1 cls G H) (hE : gE Z s) (he : G b = some (.inr (ci, fs))) (hc : cls[ci]? = some (C, T, N)) : PreV s H C b (va_Pc (.ref b :: As) (gPure Z G)) As :=
  ⟨gPure.blind, va_recv hE.1 (hG.one he) (q0 := 0) hc rfl, fun U hU hW => ⟨rfl, by rw [hU]; exact hG, hE.warm hW⟩⟩
abbrev gNm (y : MethodName) (n : Nat) : Prop := y.cls ≠ "java/lang/invoke/MethodHandle" ∧ y.cls ≠ "java/lang/invoke/VarHandle" ∧ (parseMethodDescriptor y.desc).map (fun d => d.parameters.length) = some n
/-- an invokevirtual's words -/
abbrev gLV (own : String) (index : Nat) (y : MethodName) (n : Nat) : Prop := Cond.methodLink own index y ∈ Gall ∧ Cond.instanceMethod y ∈ Gall ∧ Cond.selects y.cls y y ∈ Gall ∧ Cond.initialized y.cls ∈ Gall ∧ gNm y n
/-- the same, of a nest mate's private method -/
abbrev gLVN (own : String) (index : Nat) (y : MethodName) (n : Nat) : Prop := Cond.methodLinkNest own index y "PackSeeds" ∈ gNw ∧ Cond.instanceMethod y ∈ Gall ∧ Cond.selects y.cls y y ∈ Gall ∧ Cond.initialized y.cls ∈ Gall ∧ gNm y n
/-- an invokestatic's words -/
abbrev gLS (own : String) (index : Nat) (y : MethodName) (n : Nat) : Prop := Cond.methodLink own index y ∈ Gall ∧ Cond.static y ∈ Gall ∧ Cond.initialized y.cls ∈ Gall ∧ gNm y n
abbrev gLSN (own : String) (index : Nat) (y : MethodName) (n : Nat) : Prop := Cond.methodLinkNest own index y "PackSeeds" ∈ gNw ∧ Cond.static y ∈ Gall ∧ Cond.initialized y.cls ∈ Gall ∧ gNm y n
/-- an invokespecial's words, of a constructor -/
abbrev gLI (own : String) (index : Nat) (y : MethodName) (n : Nat) : Prop := Cond.methodLink own index y ∈ Gall ∧ Cond.instanceMethod y ∈ Gall ∧ Cond.initialized y.cls ∈ Gall ∧ y.name = "<init>" ∧ gNm y n
abbrev gLIN (own : String) (index : Nat) (y : MethodName) (n : Nat) : Prop := Cond.methodLinkNest own index y "PackSeeds" ∈ gNw ∧ Cond.instanceMethod y ∈ Gall ∧ Cond.initialized y.cls ∈ Gall ∧ y.name = "<init>" ∧ gNm y n
theorem gg1 {w0 : Cond} (h : w0 ∈ Gall) : GoodIn Gall (w0 :: Gall) := fun w hw => by
  rcases List.mem_cons.mp hw with rfl | hw
  · exact ⟨h, good_of_word (Gall_good _ h)⟩
  · exact ⟨hw, good_of_word (Gall_good _ hw)⟩
section GRUN
variable {p : Program} {l : Launch} {e : Env} {R : Room} {s : State} {m : MethodId} {args : Array Value} {below : List Frame} {meth : Method} {c : Code} {H : Heap} {locs : List Loc} {cells slots : Nat} {Q : State → Prop}
variable {cc bytes : ByteArray} {pc nL maxL mc ms n index b : Nat} {ret : Option FieldType} {ls : Array Slot} {st0 rest As : List Value} {own : String} {y : MethodName} {rm : Room} {Pc : Array Value → State → Prop} {Qc : Array Value → State → Outcome → State → Prop} {free : Addr → Prop} {Z : gZ}
theorem g_callB (S : CallFix p m c cc nL s args Gall own) (k0 : Cond.code y bytes maxL ret ∈ Gall) (hl : Cond.methodLink own index y ∈ Gall) (hi : Cond.initialized y.cls ∈ Gall) (hd : gNm y n) (hrm : rm.cells = mc ∧ rm.slots = ms) (hR : rm.frames + 1 ≤ R.frames ∧ 8 + (maxL + 11) + rm.locals ≤ R.locals) :
    CallB R s args own index y bytes maxL ret (Cond.code y bytes maxL ret :: Gall) rm mc ms n :=
  callB_of n S.2.2.2.2 (gg1 k0) rfl hrm.1 hrm.2 (S.2.2.2.2 _ hi) (S.2.2.2.2 _ hl) hd hR
theorem g_callN (S : CallFix p m c cc nL s args Gall own) (hE : gE Z s) (k0 : Cond.code y bytes maxL ret ∈ Gall) (hl : Cond.methodLinkNest own index y "PackSeeds" ∈ gNw) (hi : Cond.initialized y.cls ∈ Gall) (hd : gNm y n) (hrm : rm.cells = mc ∧ rm.slots = ms) (hR : rm.frames + 1 ≤ R.frames ∧ 8 + (maxL + 11) + rm.locals ≤ R.locals) :
    va_CN R s args own index y "PackSeeds" bytes maxL ret (Cond.code y bytes maxL ret :: Gall) rm mc ms n :=
  va_cnB n S.2.2.2.2 (gg1 k0) rfl hrm.1 hrm.2 (hE.2 _ hl) (S.2.2.2.2 _ hi) hd hR
theorem g_runV (S : CallFix p m c cc nL s args Gall own) (L : gLV own index y n) (k0 : Cond.code y bytes maxL ret ∈ Gall) (hM : Met l y (Cond.code y bytes maxL ret :: Gall) rm Pc Qc mc ms free) (hrm : rm.cells = mc ∧ rm.slots = ms) (hR : rm.frames + 1 ≤ R.frames ∧ 8 + (maxL + 11) + rm.locals ≤ R.locals) (hp : PreV s H y.cls b Pc As) (hn : As.length = n) (hsize : ls.size = nL) (hst : st0 = As.reverse ++ .ref b :: rest) (hW : (rest.map fun v => v.category).sum ≤ 8) (hdg : decode cc pc = .ok (.invokevirtual index, 3)) (hf : cells + mc ≤ R.cells ∧ slots + ms ≤ R.slots) :
    va_Run p l e R s m args below meth c H locs cells slots mc ms (F0 m pc ls st0) rest (Qc (Value.ref b :: As).toArray) free :=
  va_runV (g := F0 m pc ls st0) S hM ⟨g_callB S k0 L.1 L.2.2.2.1 L.2.2.2.2 hrm hR, S.2.2.2.2 _ L.2.1, S.2.2.2.2 _ L.2.2.1⟩ hp rfl hn hsize hst (lv_room hW) hdg hf
theorem g_runVN (S : CallFix p m c cc nL s args Gall own) (hE : gE Z s) (L : gLVN own index y n) (k0 : Cond.code y bytes maxL ret ∈ Gall) (hM : Met l y (Cond.code y bytes maxL ret :: Gall) rm Pc Qc mc ms free) (hrm : rm.cells = mc ∧ rm.slots = ms) (hR : rm.frames + 1 ≤ R.frames ∧ 8 + (maxL + 11) + rm.locals ≤ R.locals) (hp : PreV s H y.cls b Pc As) (hn : As.length = n) (hsize : ls.size = nL) (hst : st0 = As.reverse ++ .ref b :: rest) (hW : (rest.map fun v => v.category).sum ≤ 8) (hdg : decode cc pc = .ok (.invokevirtual index, 3)) (hf : cells + mc ≤ R.cells ∧ slots + ms ≤ R.slots) :
    va_Run p l e R s m args below meth c H locs cells slots mc ms (F0 m pc ls st0) rest (Qc (Value.ref b :: As).toArray) free :=
  va_runVN (g := F0 m pc ls st0) S hM ⟨g_callN S hE k0 L.1 L.2.2.2.1 L.2.2.2.2 hrm hR, S.2.2.2.2 _ L.2.1, S.2.2.2.2 _ L.2.2.1⟩ hp rfl hn hsize hst (lv_room hW) hdg hf
theorem g_runS (S : CallFix p m c cc nL s args Gall own) (L : gLS own index y n) (k0 : Cond.code y bytes maxL ret ∈ Gall) (hM : Met l y (Cond.code y bytes maxL ret :: Gall) rm Pc Qc mc ms free) (hrm : rm.cells = mc ∧ rm.slots = ms) (hR : rm.frames + 1 ≤ R.frames ∧ 8 + (maxL + 11) + rm.locals ≤ R.locals) (hp : PreS s H Pc As) (hn : As.length = n) (hsize : ls.size = nL) (hst : st0 = As.reverse ++ rest) (hW : (rest.map fun v => v.category).sum ≤ 8) (hdg : decode cc pc = .ok (.invokestatic index, 3)) (hf : cells + mc ≤ R.cells ∧ slots + ms ≤ R.slots) :
    va_Run p l e R s m args below meth c H locs cells slots mc ms (F0 m pc ls st0) rest (Qc As.toArray) free :=
  va_runS (g := F0 m pc ls st0) S hM ⟨g_callB S k0 L.1 L.2.2.1 L.2.2.2 hrm hR, S.2.2.2.2 _ L.2.1⟩ hp rfl hn hsize hst (lv_room hW) hdg hf
theorem g_runSN (S : CallFix p m c cc nL s args Gall own) (hE : gE Z s) (L : gLSN own index y n) (k0 : Cond.code y bytes maxL ret ∈ Gall) (hM : Met l y (Cond.code y bytes maxL ret :: Gall) rm Pc Qc mc ms free) (hrm : rm.cells = mc ∧ rm.slots = ms) (hR : rm.frames + 1 ≤ R.frames ∧ 8 + (maxL + 11) + rm.locals ≤ R.locals) (hp : PreS s H Pc As) (hn : As.length = n) (hsize : ls.size = nL) (hst : st0 = As.reverse ++ rest) (hW : (rest.map fun v => v.category).sum ≤ 8) (hdg : decode cc pc = .ok (.invokestatic index, 3)) (hf : cells + mc ≤ R.cells ∧ slots + ms ≤ R.slots) :
    va_Run p l e R s m args below meth c H locs cells slots mc ms (F0 m pc ls st0) rest (Qc As.toArray) free :=
  va_runSN (g := F0 m pc ls st0) S hM ⟨g_callN S hE k0 L.1 L.2.2.1 L.2.2.2 hrm hR, S.2.2.2.2 _ L.2.1, trivial⟩ hp rfl hn hsize hst (lv_room hW) hdg hf
theorem g_runI (S : CallFix p m c cc nL s args Gall own) (L : gLI own index y n) (k0 : Cond.code y bytes maxL none ∈ Gall) (hM : Met l y (Cond.code y bytes maxL none :: Gall) rm Pc Qc mc ms free) (hrm : rm.cells = mc ∧ rm.slots = ms) (hR : rm.frames + 1 ≤ R.frames ∧ 8 + (maxL + 11) + rm.locals ≤ R.locals) (hp : PreS s H Pc (.ref b :: As)) (hn : As.length = n) (hsize : ls.size = nL) (hst : st0 = As.reverse ++ .ref b :: rest) (hW : (rest.map fun v => v.category).sum ≤ 8) (hdg : decode cc pc = .ok (.invokespecial index, 3)) (hf : cells + mc ≤ R.cells ∧ slots + ms ≤ R.slots) :
    va_Run p l e R s m args below meth c H locs cells slots mc ms (F0 m pc ls st0) rest (Qc (Value.ref b :: As).toArray) free :=
  va_runI (g := F0 m pc ls st0) S hM ⟨g_callB S k0 L.1 L.2.2.1 L.2.2.2.2 hrm hR, L.2.2.2.1, S.2.2.2.2 _ L.2.1⟩ hp rfl hn hsize hst (lv_room hW) hdg hf
theorem g_runIN (S : CallFix p m c cc nL s args Gall own) (hE : gE Z s) (L : gLIN own index y n) (k0 : Cond.code y bytes maxL none ∈ Gall) (hM : Met l y (Cond.code y bytes maxL none :: Gall) rm Pc Qc mc ms free) (hrm : rm.cells = mc ∧ rm.slots = ms) (hR : rm.frames + 1 ≤ R.frames ∧ 8 + (maxL + 11) + rm.locals ≤ R.locals) (hp : PreS s H Pc (.ref b :: As)) (hn : As.length = n) (hsize : ls.size = nL) (hst : st0 = As.reverse ++ .ref b :: rest) (hW : (rest.map fun v => v.category).sum ≤ 8) (hdg : decode cc pc = .ok (.invokespecial index, 3)) (hf : cells + mc ≤ R.cells ∧ slots + ms ≤ R.slots) :
    va_Run p l e R s m args below meth c H locs cells slots mc ms (F0 m pc ls st0) rest (Qc (Value.ref b :: As).toArray) free :=
  va_runIN (g := F0 m pc ls st0) S hM ⟨g_callN S hE k0 L.1 L.2.2.1 L.2.2.2.2 hrm hR, L.2.2.2.1, S.2.2.2.2 _ L.2.1⟩ hp rfl hn hsize hst (lv_room hW) hdg hf
/-- a pure call's answer -/
theorem g_retl {post : Int64 → Prop} {aa : Array Value} (hr : va_Run p l e R s m args below meth c H locs cells slots 0 0 (F0 m pc ls st0) rest (vp_Sl post aa) (fun _ => False))
    (kk : ∀ r : Int64, post r → W p l e R s m args below meth c H locs cells slots Q (F0 m (pc + 3) ls (.long r :: rest))) : W p l e R s m args below meth c H locs cells slots Q (F0 m pc ls st0) := vp_callSl hr.run kk
theorem g_reti {post : Int32 → Prop} {aa : Array Value} (hr : va_Run p l e R s m args below meth c H locs cells slots 0 0 (F0 m pc ls st0) rest (vp_Si post aa) (fun _ => False))
    (kk : ∀ r : Int32, post r → W p l e R s m args below meth c H locs cells slots Q (F0 m (pc + 3) ls (.int r :: rest))) : W p l e R s m args below meth c H locs cells slots Q (F0 m pc ls st0) := vp_callSi hr.run kk
theorem g_retq {post : Option Nat → Prop} {aa : Array Value} (hr : va_Run p l e R s m args below meth c H locs cells slots 0 0 (F0 m pc ls st0) rest (va_Sq post aa) (fun _ => False))
    (kk : ∀ r : Option Nat, post r → W p l e R s m args below meth c H locs cells slots Q (F0 m (pc + 3) ls (va_rf r :: rest))) : W p l e R s m args below meth c H locs cells slots Q (F0 m pc ls st0) := va_csq hr.run kk
end GRUN
