/-! What the Statement gives at the law's entry. -/
theorem vk_known {args : Array Value} {s : State} {own tx : String} {k : Nat} {cC : ClassId} (hown : s.vm.findClass own = some cC) (h : (Cond.stringRef own k tx).before args s = true) : ∃ sa : Nat, vk_R own k tx sa s := by
  obtain ⟨-, -, -, sa, -, -, -, -, -, hev⟩ := Cond.stringRef_spec hown h
  exact ⟨sa, vk_R.of h hev⟩
theorem arrK {args : Array Value} {s : State} {ty : FieldType} (h : (Cond.arrayClass ty).before args s = true) : ∃ cA : ClassId, ArrOfT s cA ty ∧ s.vm.findClass ("[" ++ ty.toString) = some cA := by
  obtain ⟨cA, kA, comp, h1, h2, h3⟩ := Cond.arrayClass_spec h
  exact ⟨cA, fun n z => ⟨fun k h => (by cases h), kA, h2, comp, h3⟩, h1⟩
set_option maxHeartbeats 1000000 in
set_option maxRecDepth 100000 in
theorem lw_given {s : State} {args : Array Value} (hts : ∀ w ∈ lw_tbl, w.before args s = true) (hgv : (Jvm.Cond.and given_1 narrow_1).before args s = true) : ∃ Z : gZ, gE Z s ∧ gXt (gA (fun _ => none) s.heap.size) s s.heap ∧ gNcx s ∧ va_AO "PackSeeds$Pattern" s := by
  have hs := flat_of_before _ hgv
  have hg : ∀ w ∈ Gall, w.before args s = true := fun w hw => hts w (Gall_in w hw)
  obtain ⟨c0, i0, kn0⟩ := u_known (C := "PackSeeds") (T := F_ps) (N := 5) (n := 5) hg in_ps (hg _ tw_15)
  obtain ⟨c1, i1, kn1⟩ := u_known (C := "PackSeeds$Shape") (T := F_sh) (N := 2) (n := 2) hg in_sh (hg _ tw_23)
  obtain ⟨c2, i2, kn2⟩ := u_known (C := "PackSeeds$Machine") (T := F_ma) (N := 4) (n := 4) hg in_ma (hg _ tw_46)
  obtain ⟨c3, i3, kn3⟩ := u_known (C := "PackSeeds$Pattern") (T := F_pt) (N := 6) (n := 6) hg in_pt (hg _ tw_99)
  obtain ⟨c4, i4, kn4⟩ := u_known (C := "PackSeedsModel") (T := F_mo) (N := 13) (n := 13) hg in_mo (hg _ tw_486)
  obtain ⟨a0, r0, f0⟩ := arrK (hg _ tw_65)
  obtain ⟨a1, r1, f1⟩ := arrK (hg _ tw_531)
  obtain ⟨a2, r2, f2⟩ := arrK (hg _ tw_532)
  have hAO : va_AO "PackSeeds$Pattern" s := va_AO.of (hts _ (by decide +kernel))
  obtain ⟨comp, a3, k3, h1, -, h3, h4, h5⟩ := Cond.arrayOver_spec hAO
  refine ⟨((fun k => if k = 0 then c0 else if k = 1 then c1 else if k = 2 then c2 else if k = 3 then c3 else c4, fun k => if k = 0 then i0 else if k = 1 then i1 else if k = 2 then i2 else if k = 3 then i3 else i4), fun k => if k = 0 then a0 else if k = 1 then a1 else if k = 2 then a2 else a3), ⟨⟨fun k q hq => ?_, fun k q hq => ?_⟩, fun w hw => va_Nw.of (gNw_on w hw) (hts w (gNw_in w hw))⟩, ⟨fun q hq => ?_, ?_, ?_⟩, va_Nc.of (hs _ (by decide +kernel)), hAO⟩
  · match k, hq with
    | 0, hq => cases hq; exact kn0
    | 1, hq => cases hq; exact kn1
    | 2, hq => cases hq; exact kn2
    | 3, hq => cases hq; exact kn3
    | 4, hq => cases hq; exact kn4
    | k + 5, hq => simp [cls] at hq
  · match k, hq with
    | 0, hq => cases hq; exact ⟨r0, f0⟩
    | 1, hq => cases hq; exact ⟨r1, f1⟩
    | 2, hq => cases hq; exact ⟨r2, f2⟩
    | 3, hq => cases hq; exact ⟨fun n z => ⟨fun k h => (by cases h), k3, h3, comp, h4⟩, k3, comp, h3, h4, h1, h5⟩
    | k + 4, hq => simp [gT] at hq
  · have hall : ∀ q ∈ gStr, Cond.stringRef "PackSeeds" q.1 q.2 ∈ lw_tbl := by decide +kernel
    exact vk_known kn0.2.1 (hts _ (hall q hq))
  · exact vx_Zqof (hts _ (by decide +kernel)) (hg _ tw_6) (hs _ (by decide +kernel)) (fun a h => lw_nA h)
  · exact vx_Zqof (hts _ (by decide +kernel)) (hg _ tw_6) (hs _ (by decide +kernel)) (fun a h => lw_nA h)
