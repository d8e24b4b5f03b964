section
-- ===== PART A: goes FIRST, ahead of the names: the tables' words, and 'selects' of the private methods out of them =====
/-- a private method of a class that the tables say can be made, by its rows of tables_1 -/
def lw_okq (q : MethodName × Nat) : Prop := (q.1.cls ≠ "java/lang/invoke/MethodHandle" ∧ q.1.cls ≠ "java/lang/invoke/VarHandle") ∧ Cond.instantiable q.1.cls q.2 ∈ tables_1 ∧ Cond.privateMethod q.1 ∈ tables_1 ∧ Cond.instanceMethod q.1 ∈ tables_1
theorem lw_p0 : lw_okq (⟨"PackSeeds", "presentOrNull", "(I)LPackSeeds$Pattern;"⟩, 5) := ⟨⟨by decide +kernel, by decide +kernel⟩, List.mem_of_getElem? (i := 15) (by decide +kernel), List.mem_of_getElem? (i := 89) (by decide +kernel), List.mem_of_getElem? (i := 90) (by decide +kernel)⟩
theorem lw_p1 : lw_okq (⟨"PackSeeds", "takeFromBehind", "(LPackSeeds$Pattern;I)V"⟩, 5) := ⟨⟨by decide +kernel, by decide +kernel⟩, List.mem_of_getElem? (i := 15) (by decide +kernel), List.mem_of_getElem? (i := 93) (by decide +kernel), List.mem_of_getElem? (i := 94) (by decide +kernel)⟩
theorem lw_p2 : lw_okq (⟨"PackSeeds$Pattern", "goesWith", "(LPackSeeds$Pattern;)Z"⟩, 6) := ⟨⟨by decide +kernel, by decide +kernel⟩, List.mem_of_getElem? (i := 99) (by decide +kernel), List.mem_of_getElem? (i := 97) (by decide +kernel), List.mem_of_getElem? (i := 98) (by decide +kernel)⟩
theorem lw_p3 : lw_okq (⟨"PackSeeds$Pattern", "take", "(LPackSeeds$Pattern;)V"⟩, 6) := ⟨⟨by decide +kernel, by decide +kernel⟩, List.mem_of_getElem? (i := 99) (by decide +kernel), List.mem_of_getElem? (i := 102) (by decide +kernel), List.mem_of_getElem? (i := 103) (by decide +kernel)⟩
theorem lw_p4 : lw_okq (⟨"PackSeeds", "countPresent", "()I"⟩, 5) := ⟨⟨by decide +kernel, by decide +kernel⟩, List.mem_of_getElem? (i := 15) (by decide +kernel), List.mem_of_getElem? (i := 106) (by decide +kernel), List.mem_of_getElem? (i := 107) (by decide +kernel)⟩
theorem lw_p5 : lw_okq (⟨"PackSeeds", "faultsOfAllBut", "(I)I"⟩, 5) := ⟨⟨by decide +kernel, by decide +kernel⟩, List.mem_of_getElem? (i := 15) (by decide +kernel), List.mem_of_getElem? (i := 114) (by decide +kernel), List.mem_of_getElem? (i := 115) (by decide +kernel)⟩
theorem lw_p6 : lw_okq (⟨"PackSeeds$Machine", "hasLongestCycle", "()Z"⟩, 4) := ⟨⟨by decide +kernel, by decide +kernel⟩, List.mem_of_getElem? (i := 46) (by decide +kernel), List.mem_of_getElem? (i := 122) (by decide +kernel), List.mem_of_getElem? (i := 123) (by decide +kernel)⟩
theorem lw_p7 : lw_okq (⟨"PackSeeds$Machine", "step", "(I)I"⟩, 4) := ⟨⟨by decide +kernel, by decide +kernel⟩, List.mem_of_getElem? (i := 46) (by decide +kernel), List.mem_of_getElem? (i := 126) (by decide +kernel), List.mem_of_getElem? (i := 127) (by decide +kernel)⟩
theorem lw_p8 : lw_okq (⟨"java/lang/Throwable", "fillInStackTrace", "(I)Ljava/lang/Throwable;"⟩, 6) := ⟨⟨by decide +kernel, by decide +kernel⟩, List.mem_of_getElem? (i := 185) (by decide +kernel), List.mem_of_getElem? (i := 183) (by decide +kernel), List.mem_of_getElem? (i := 184) (by decide +kernel)⟩
theorem lw_p9 : lw_okq (⟨"PackSeeds", "present", "(I)LPackSeeds$Pattern;"⟩, 5) := ⟨⟨by decide +kernel, by decide +kernel⟩, List.mem_of_getElem? (i := 15) (by decide +kernel), List.mem_of_getElem? (i := 253) (by decide +kernel), List.mem_of_getElem? (i := 254) (by decide +kernel)⟩
theorem lw_p10 : lw_okq (⟨"PackSeeds", "existingPlace", "(II)I"⟩, 5) := ⟨⟨by decide +kernel, by decide +kernel⟩, List.mem_of_getElem? (i := 15) (by decide +kernel), List.mem_of_getElem? (i := 273) (by decide +kernel), List.mem_of_getElem? (i := 274) (by decide +kernel)⟩
theorem lw_p11 : lw_okq (⟨"PackSeeds$Pattern", "setCare", "(II)Z"⟩, 6) := ⟨⟨by decide +kernel, by decide +kernel⟩, List.mem_of_getElem? (i := 99) (by decide +kernel), List.mem_of_getElem? (i := 297) (by decide +kernel), List.mem_of_getElem? (i := 298) (by decide +kernel)⟩
theorem lw_p12 : lw_okq (⟨"PackSeeds$Pattern", "careAt", "(I)I"⟩, 6) := ⟨⟨by decide +kernel, by decide +kernel⟩, List.mem_of_getElem? (i := 99) (by decide +kernel), List.mem_of_getElem? (i := 301) (by decide +kernel), List.mem_of_getElem? (i := 302) (by decide +kernel)⟩
theorem lw_p13 : lw_okq (⟨"PackSeeds$Machine", "restart", "(I)V"⟩, 4) := ⟨⟨by decide +kernel, by decide +kernel⟩, List.mem_of_getElem? (i := 46) (by decide +kernel), List.mem_of_getElem? (i := 313) (by decide +kernel), List.mem_of_getElem? (i := 314) (by decide +kernel)⟩
theorem lw_p14 : lw_okq (⟨"PackSeeds", "forgetSeeds", "()V"⟩, 5) := ⟨⟨by decide +kernel, by decide +kernel⟩, List.mem_of_getElem? (i := 15) (by decide +kernel), List.mem_of_getElem? (i := 317) (by decide +kernel), List.mem_of_getElem? (i := 318) (by decide +kernel)⟩
theorem lw_p15 : lw_okq (⟨"PackSeeds$Machine", "isTapped", "(I)Z"⟩, 4) := ⟨⟨by decide +kernel, by decide +kernel⟩, List.mem_of_getElem? (i := 46) (by decide +kernel), List.mem_of_getElem? (i := 330) (by decide +kernel), List.mem_of_getElem? (i := 331) (by decide +kernel)⟩
def lw_privs_1 : List (MethodName × Nat) := [(⟨"PackSeeds", "presentOrNull", "(I)LPackSeeds$Pattern;"⟩, 5), (⟨"PackSeeds", "takeFromBehind", "(LPackSeeds$Pattern;I)V"⟩, 5), (⟨"PackSeeds$Pattern", "goesWith", "(LPackSeeds$Pattern;)Z"⟩, 6), (⟨"PackSeeds$Pattern", "take", "(LPackSeeds$Pattern;)V"⟩, 6), (⟨"PackSeeds", "countPresent", "()I"⟩, 5), (⟨"PackSeeds", "faultsOfAllBut", "(I)I"⟩, 5), (⟨"PackSeeds$Machine", "hasLongestCycle", "()Z"⟩, 4), (⟨"PackSeeds$Machine", "step", "(I)I"⟩, 4), (⟨"java/lang/Throwable", "fillInStackTrace", "(I)Ljava/lang/Throwable;"⟩, 6), (⟨"PackSeeds", "present", "(I)LPackSeeds$Pattern;"⟩, 5), (⟨"PackSeeds", "existingPlace", "(II)I"⟩, 5), (⟨"PackSeeds$Pattern", "setCare", "(II)Z"⟩, 6), (⟨"PackSeeds$Pattern", "careAt", "(I)I"⟩, 6), (⟨"PackSeeds$Machine", "restart", "(I)V"⟩, 4), (⟨"PackSeeds", "forgetSeeds", "()V"⟩, 5), (⟨"PackSeeds$Machine", "isTapped", "(I)Z"⟩, 4)]
theorem lw_r1 : ∀ q ∈ lw_privs_1, lw_okq q := List.forall_mem_cons.mpr ⟨lw_p0, List.forall_mem_cons.mpr ⟨lw_p1, List.forall_mem_cons.mpr ⟨lw_p2, List.forall_mem_cons.mpr ⟨lw_p3, List.forall_mem_cons.mpr ⟨lw_p4, List.forall_mem_cons.mpr ⟨lw_p5, List.forall_mem_cons.mpr ⟨lw_p6, List.forall_mem_cons.mpr ⟨lw_p7, List.forall_mem_cons.mpr ⟨lw_p8, List.forall_mem_cons.mpr ⟨lw_p9, List.forall_mem_cons.mpr ⟨lw_p10, List.forall_mem_cons.mpr ⟨lw_p11, List.forall_mem_cons.mpr ⟨lw_p12, List.forall_mem_cons.mpr ⟨lw_p13, List.forall_mem_cons.mpr ⟨lw_p14, List.forall_mem_cons.mpr ⟨lw_p15, fun _ h => absurd h List.not_mem_nil⟩⟩⟩⟩⟩⟩⟩⟩⟩⟩⟩⟩⟩⟩⟩⟩
theorem lw_p16 : lw_okq (⟨"PackSeeds$Machine", "turnTap", "(I)V"⟩, 4) := ⟨⟨by decide +kernel, by decide +kernel⟩, List.mem_of_getElem? (i := 46) (by decide +kernel), List.mem_of_getElem? (i := 334) (by decide +kernel), List.mem_of_getElem? (i := 335) (by decide +kernel)⟩
theorem lw_p17 : lw_okq (⟨"PackSeeds$Machine", "leastSeed", "(II)I"⟩, 4) := ⟨⟨by decide +kernel, by decide +kernel⟩, List.mem_of_getElem? (i := 46) (by decide +kernel), List.mem_of_getElem? (i := 345) (by decide +kernel), List.mem_of_getElem? (i := 346) (by decide +kernel)⟩
theorem lw_p18 : lw_okq (⟨"PackSeeds$Machine", "make", "(I)I"⟩, 4) := ⟨⟨by decide +kernel, by decide +kernel⟩, List.mem_of_getElem? (i := 46) (by decide +kernel), List.mem_of_getElem? (i := 349) (by decide +kernel), List.mem_of_getElem? (i := 350) (by decide +kernel)⟩
theorem lw_p19 : lw_okq (⟨"PackSeeds$Machine", "stageAround", "(I)I"⟩, 4) := ⟨⟨by decide +kernel, by decide +kernel⟩, List.mem_of_getElem? (i := 46) (by decide +kernel), List.mem_of_getElem? (i := 353) (by decide +kernel), List.mem_of_getElem? (i := 354) (by decide +kernel)⟩
theorem lw_p20 : lw_okq (⟨"PackSeeds$Machine", "reduced", "(J)J"⟩, 4) := ⟨⟨by decide +kernel, by decide +kernel⟩, List.mem_of_getElem? (i := 46) (by decide +kernel), List.mem_of_getElem? (i := 361) (by decide +kernel), List.mem_of_getElem? (i := 362) (by decide +kernel)⟩
theorem lw_p21 : lw_okq (⟨"PackSeeds$Machine", "keep", "(J)V"⟩, 4) := ⟨⟨by decide +kernel, by decide +kernel⟩, List.mem_of_getElem? (i := 46) (by decide +kernel), List.mem_of_getElem? (i := 365) (by decide +kernel), List.mem_of_getElem? (i := 366) (by decide +kernel)⟩
theorem lw_p22 : lw_okq (⟨"PackSeeds", "bitsOf", "(LPackSeeds$Pattern;)I"⟩, 5) := ⟨⟨by decide +kernel, by decide +kernel⟩, List.mem_of_getElem? (i := 15) (by decide +kernel), List.mem_of_getElem? (i := 386) (by decide +kernel), List.mem_of_getElem? (i := 387) (by decide +kernel)⟩
theorem lw_p23 : lw_okq (⟨"PackSeeds", "filledFromNearest", "(LPackSeeds$Pattern;)I"⟩, 5) := ⟨⟨by decide +kernel, by decide +kernel⟩, List.mem_of_getElem? (i := 15) (by decide +kernel), List.mem_of_getElem? (i := 391) (by decide +kernel), List.mem_of_getElem? (i := 392) (by decide +kernel)⟩
theorem lw_p24 : lw_okq (⟨"PackSeeds", "nearestCare", "(LPackSeeds$Pattern;II)I"⟩, 5) := ⟨⟨by decide +kernel, by decide +kernel⟩, List.mem_of_getElem? (i := 15) (by decide +kernel), List.mem_of_getElem? (i := 395) (by decide +kernel), List.mem_of_getElem? (i := 396) (by decide +kernel)⟩
theorem lw_p25 : lw_okq (⟨"PackSeeds$Machine", "takeIn", "(II)I"⟩, 4) := ⟨⟨by decide +kernel, by decide +kernel⟩, List.mem_of_getElem? (i := 46) (by decide +kernel), List.mem_of_getElem? (i := 434) (by decide +kernel), List.mem_of_getElem? (i := 435) (by decide +kernel)⟩
theorem lw_p26 : lw_okq (⟨"PackSeeds", "countSeeded", "()I"⟩, 5) := ⟨⟨by decide +kernel, by decide +kernel⟩, List.mem_of_getElem? (i := 15) (by decide +kernel), List.mem_of_getElem? (i := 476) (by decide +kernel), List.mem_of_getElem? (i := 477) (by decide +kernel)⟩
theorem lw_p27 : lw_okq (⟨"PackSeeds", "countCared", "()I"⟩, 5) := ⟨⟨by decide +kernel, by decide +kernel⟩, List.mem_of_getElem? (i := 15) (by decide +kernel), List.mem_of_getElem? (i := 480) (by decide +kernel), List.mem_of_getElem? (i := 481) (by decide +kernel)⟩
theorem lw_p28 : lw_okq (⟨"PackSeedsModel", "is", "(I)Z"⟩, 13) := ⟨⟨by decide +kernel, by decide +kernel⟩, List.mem_of_getElem? (i := 486) (by decide +kernel), List.mem_of_getElem? (i := 546) (by decide +kernel), List.mem_of_getElem? (i := 547) (by decide +kernel)⟩
theorem lw_p29 : lw_okq (⟨"PackSeedsModel", "isCell", "(II)Z"⟩, 13) := ⟨⟨by decide +kernel, by decide +kernel⟩, List.mem_of_getElem? (i := 486) (by decide +kernel), List.mem_of_getElem? (i := 550) (by decide +kernel), List.mem_of_getElem? (i := 551) (by decide +kernel)⟩
theorem lw_p30 : lw_okq (⟨"PackSeedsModel", "place", "(III)I"⟩, 13) := ⟨⟨by decide +kernel, by decide +kernel⟩, List.mem_of_getElem? (i := 486) (by decide +kernel), List.mem_of_getElem? (i := 554) (by decide +kernel), List.mem_of_getElem? (i := 555) (by decide +kernel)⟩
theorem lw_p31 : lw_okq (⟨"PackSeedsModel", "goTogether", "(II)Z"⟩, 13) := ⟨⟨by decide +kernel, by decide +kernel⟩, List.mem_of_getElem? (i := 486) (by decide +kernel), List.mem_of_getElem? (i := 570) (by decide +kernel), List.mem_of_getElem? (i := 571) (by decide +kernel)⟩
def lw_privs_2 : List (MethodName × Nat) := [(⟨"PackSeeds$Machine", "turnTap", "(I)V"⟩, 4), (⟨"PackSeeds$Machine", "leastSeed", "(II)I"⟩, 4), (⟨"PackSeeds$Machine", "make", "(I)I"⟩, 4), (⟨"PackSeeds$Machine", "stageAround", "(I)I"⟩, 4), (⟨"PackSeeds$Machine", "reduced", "(J)J"⟩, 4), (⟨"PackSeeds$Machine", "keep", "(J)V"⟩, 4), (⟨"PackSeeds", "bitsOf", "(LPackSeeds$Pattern;)I"⟩, 5), (⟨"PackSeeds", "filledFromNearest", "(LPackSeeds$Pattern;)I"⟩, 5), (⟨"PackSeeds", "nearestCare", "(LPackSeeds$Pattern;II)I"⟩, 5), (⟨"PackSeeds$Machine", "takeIn", "(II)I"⟩, 4), (⟨"PackSeeds", "countSeeded", "()I"⟩, 5), (⟨"PackSeeds", "countCared", "()I"⟩, 5), (⟨"PackSeedsModel", "is", "(I)Z"⟩, 13), (⟨"PackSeedsModel", "isCell", "(II)Z"⟩, 13), (⟨"PackSeedsModel", "place", "(III)I"⟩, 13), (⟨"PackSeedsModel", "goTogether", "(II)Z"⟩, 13)]
theorem lw_r2 : ∀ q ∈ lw_privs_2, lw_okq q := List.forall_mem_cons.mpr ⟨lw_p16, List.forall_mem_cons.mpr ⟨lw_p17, List.forall_mem_cons.mpr ⟨lw_p18, List.forall_mem_cons.mpr ⟨lw_p19, List.forall_mem_cons.mpr ⟨lw_p20, List.forall_mem_cons.mpr ⟨lw_p21, List.forall_mem_cons.mpr ⟨lw_p22, List.forall_mem_cons.mpr ⟨lw_p23, List.forall_mem_cons.mpr ⟨lw_p24, List.forall_mem_cons.mpr ⟨lw_p25, List.forall_mem_cons.mpr ⟨lw_p26, List.forall_mem_cons.mpr ⟨lw_p27, List.forall_mem_cons.mpr ⟨lw_p28, List.forall_mem_cons.mpr ⟨lw_p29, List.forall_mem_cons.mpr ⟨lw_p30, List.forall_mem_cons.mpr ⟨lw_p31, fun _ h => absurd h List.not_mem_nil⟩⟩⟩⟩⟩⟩⟩⟩⟩⟩⟩⟩⟩⟩⟩⟩
theorem lw_p32 : lw_okq (⟨"PackSeedsModel", "left", "()I"⟩, 13) := ⟨⟨by decide +kernel, by decide +kernel⟩, List.mem_of_getElem? (i := 486) (by decide +kernel), List.mem_of_getElem? (i := 574) (by decide +kernel), List.mem_of_getElem? (i := 575) (by decide +kernel)⟩
theorem lw_p33 : lw_okq (⟨"PackSeedsModel", "findersOf", "(I)I"⟩, 13) := ⟨⟨by decide +kernel, by decide +kernel⟩, List.mem_of_getElem? (i := 486) (by decide +kernel), List.mem_of_getElem? (i := 582) (by decide +kernel), List.mem_of_getElem? (i := 583) (by decide +kernel)⟩
theorem lw_p34 : lw_okq (⟨"PackSeedsModel", "noSeeds", "()V"⟩, 13) := ⟨⟨by decide +kernel, by decide +kernel⟩, List.mem_of_getElem? (i := 486) (by decide +kernel), List.mem_of_getElem? (i := 594) (by decide +kernel), List.mem_of_getElem? (i := 595) (by decide +kernel)⟩
theorem lw_p35 : lw_okq (⟨"PackSeedsModel", "makes", "(II)Z"⟩, 13) := ⟨⟨by decide +kernel, by decide +kernel⟩, List.mem_of_getElem? (i := 486) (by decide +kernel), List.mem_of_getElem? (i := 606) (by decide +kernel), List.mem_of_getElem? (i := 607) (by decide +kernel)⟩
theorem lw_p36 : lw_okq (⟨"PackSeedsModel", "step", "(I)I"⟩, 13) := ⟨⟨by decide +kernel, by decide +kernel⟩, List.mem_of_getElem? (i := 486) (by decide +kernel), List.mem_of_getElem? (i := 610) (by decide +kernel), List.mem_of_getElem? (i := 611) (by decide +kernel)⟩
theorem lw_p37 : lw_okq (⟨"PackSeedsModel", "bitOf", "(III)I"⟩, 13) := ⟨⟨by decide +kernel, by decide +kernel⟩, List.mem_of_getElem? (i := 486) (by decide +kernel), List.mem_of_getElem? (i := 622) (by decide +kernel), List.mem_of_getElem? (i := 623) (by decide +kernel)⟩
theorem lw_p38 : lw_okq (⟨"PackSeedsModel", "brought", "(III)I"⟩, 13) := ⟨⟨by decide +kernel, by decide +kernel⟩, List.mem_of_getElem? (i := 486) (by decide +kernel), List.mem_of_getElem? (i := 626) (by decide +kernel), List.mem_of_getElem? (i := 627) (by decide +kernel)⟩
theorem lw_p39 : lw_okq (⟨"PackSeedsModel", "rank", "(I)I"⟩, 13) := ⟨⟨by decide +kernel, by decide +kernel⟩, List.mem_of_getElem? (i := 486) (by decide +kernel), List.mem_of_getElem? (i := 650) (by decide +kernel), List.mem_of_getElem? (i := 651) (by decide +kernel)⟩
def lw_privs_3 : List (MethodName × Nat) := [(⟨"PackSeedsModel", "left", "()I"⟩, 13), (⟨"PackSeedsModel", "findersOf", "(I)I"⟩, 13), (⟨"PackSeedsModel", "noSeeds", "()V"⟩, 13), (⟨"PackSeedsModel", "makes", "(II)Z"⟩, 13), (⟨"PackSeedsModel", "step", "(I)I"⟩, 13), (⟨"PackSeedsModel", "bitOf", "(III)I"⟩, 13), (⟨"PackSeedsModel", "brought", "(III)I"⟩, 13), (⟨"PackSeedsModel", "rank", "(I)I"⟩, 13)]
theorem lw_r3 : ∀ q ∈ lw_privs_3, lw_okq q := List.forall_mem_cons.mpr ⟨lw_p32, List.forall_mem_cons.mpr ⟨lw_p33, List.forall_mem_cons.mpr ⟨lw_p34, List.forall_mem_cons.mpr ⟨lw_p35, List.forall_mem_cons.mpr ⟨lw_p36, List.forall_mem_cons.mpr ⟨lw_p37, List.forall_mem_cons.mpr ⟨lw_p38, List.forall_mem_cons.mpr ⟨lw_p39, fun _ h => absurd h List.not_mem_nil⟩⟩⟩⟩⟩⟩⟩⟩
def lw_privs : List (MethodName × Nat) := lw_privs_1 ++ (lw_privs_2 ++ (lw_privs_3))
def lw_tbl : List Cond := k2_sels lw_privs ++ tables_1
theorem lw_privs_ok : ∀ q ∈ lw_privs, lw_okq q := by
  show ∀ q ∈ lw_privs_1 ++ (lw_privs_2 ++ (lw_privs_3)), lw_okq q
  exact List.forall_mem_append.mpr ⟨lw_r1, List.forall_mem_append.mpr ⟨lw_r2, lw_r3⟩⟩
end
section
/-! ===== BEGIN words of one list among another's, by their places ===== -/
theorem goodIn_r {big : List Cond} (ws : List Cond) (ps : List Nat) (hp : ws = ps.filterMap (fun i => big[i]?)) (h : ws.all goodWord = true) : GoodIn big ws := by
  intro w hw
  have h1 := List.all_eq_true.mp h w hw
  rw [hp] at hw
  obtain ⟨i, -, hi⟩ := List.mem_filterMap.mp hw
  have hm : w ∈ big := by first | exact List.mem_of_getElem? hi | exact List.getElem?_mem hi
  exact ⟨hm, good_of_word h1⟩
theorem goodIn_app {big a b : List Cond} (ha : GoodIn big a) (hb : GoodIn big b) : GoodIn big (a ++ b) := fun w h => (List.mem_append.mp h).elim (ha w) (hb w)
theorem goodIn_ca {big a b : List Cond} {c : Cond} (ha : GoodIn big (c :: a)) (hb : GoodIn big b) : GoodIn big (c :: (a ++ b)) := fun w h => (List.mem_cons.mp h).elim (fun e => ha w (List.mem_cons.mpr (Or.inl e))) (fun h => (List.mem_append.mp h).elim (fun h => ha w (List.mem_cons.mpr (Or.inr h))) (hb w))
theorem goodIn_sub {big ws : List Cond} (hm : ∀ w ∈ ws, w ∈ big) (h : ws.all goodWord = true) : GoodIn big ws := fun w hw => ⟨hm w hw, good_of_word (List.all_eq_true.mp h w hw)⟩
/-! ===== END ===== -/

/-! ===== BEGIN exceptions that leave a method, and their catching by the caller (launches without stack traces) ===== -/
section VXA
/-! The laws vx_back, vx_callV, vx_callS, vx_callSW, vx_throw0, vx_throwS follow proofs of the library, with one case more: JvmDerived/Free/Laws.lean (Back.of_free), Shelf42/LK1.lean (callV, callS), Shelf/KitTraced.lean (throwNew0V, throwNewS). -/
/-- where a method has thrown q: the class by its name, the cell, what was written, the world -/
def vx_T (XC : String → State → State → Prop) (st : State) (q : Addr) (t : State) (mc ms : Nat) (free : Addr → Prop) : Prop :=
  ∃ (E : String) (ce : Cell) (L : List Loc), XC E st t ∧ t.heap[q]? = some ce ∧ ce.vm = .none ∧ st.vm.findClass E = some ce.cls ∧ st.WarmedH t.vm ∧ st.sameButNew ({ t with vm := st.vm } : State) L mc ms ∧ ∀ z ∈ L, free z.base
def vx_Q (Qc : Array Value → State → Outcome → State → Prop) (XC : String → State → State → Prop) (mc ms : Nat) (free : Addr → Prop) : Array Value → State → Outcome → State → Prop := fun a st o t =>
  (Qc a st o t ∧ ∃ L, FrameEnd st o t L mc ms ∧ ∀ q ∈ L, free q.base) ∨ ∃ q, o = .threw q ∧ vx_T XC st q t mc ms free
/-- a callee that returns or throws -/
def vx_Met (l : Launch) (y : MethodName) (ws : List Cond) (rm : Room) (Pc : Array Value → State → Prop) (Qc : Array Value → State → Outcome → State → Prop) (XC : String → State → State → Prop) (mc ms : Nat) (free : Addr → Prop) : Prop :=
  MetFree l y (headSpec ws rm) Pc (fun _ _ _ _ _ => True) (vx_Q Qc XC mc ms free)
def vx_Post (XC : String → State → State → Prop) (mc ms : Nat) (free : Addr → Prop) : Pt → Array Value → Addr → Pt → Prop := fun A a q B =>
  ∃ (g : JFrame) (mk : MethodId) (t : State) (L : List Loc) (E : String) (ce : Cell), B.U.heap = t.heap ∧ B.U.vm = t.vm ∧ XC E (A.U.calling g mk a) t ∧ t.heap[q]? = some ce ∧ ce.vm = .none ∧ A.U.vm.findClass E = some ce.cls ∧ B.locs = A.locs ++ L ∧ (∀ z ∈ L, free z.base) ∧ B.cells = A.cells + mc ∧ B.slots = A.slots + ms
def vx_Back (l : Launch) (R : Room) (p : Program) (e : Env) (below : List Frame) (s : State) (sargs : Array Value) (y : MethodName) (len W9 : Nat)
    (Pre : Pt → Array Value → Prop) (Post : Pt → Array Value → Option Value → Pt → Prop) (PostX : Pt → Array Value → Addr → Pt → Prop) : Prop :=
  ∀ (m : MethodId) (meth : Method) (c : Code) (A : Pt) (g : JFrame) (ig : Instr) (mk : MethodId) (a : Array Value),
    Stand p l e R s m sargs below meth c A.U A.locs A.cells A.slots → g.method = m → g.locals.size = c.maxLocals → decode c.code g.pc = .ok (ig, len) →
    2 * g.monitorRoom + (g.stack.map fun v => v.category).sum ≤ W9 → A.U.methodNamed? y = some mk → Pre A a →
    (∃ (v : Option Value) (B : Pt), Stand p l e R s m sargs below meth c B.U B.locs B.cells B.slots ∧ Post A a v B ∧
      Steps p.tables e below (doInvoke e (A.U.setTop g) [] mk a).1 (B.U.setTop { g with pc := g.pc + len, stack := v.toList ++ g.stack })) ∨
    (∃ (q : Addr) (B : Pt), Stand p l e R s m sargs below meth c B.U B.locs B.cells B.slots ∧ PostX A a q B ∧
      Steps p.tables e below (doInvoke e (A.U.setTop g) [] mk a).1 ((B.U.setTop g).pushFrame (.throwing q)))
section Payer
variable {l : Launch} {R : Room} {p : Program} {e : Env} {below : List Frame} {s : State} {sargs : Array Value} {y : MethodName} {len W9 : Nat}
theorem vx_back {ws : List Cond} {rm : Room} {Pc : Array Value → State → Prop} {Qc : Array Value → State → Outcome → State → Prop} {XC : String → State → State → Prop} {mc ms : Nat} {free : Addr → Prop} {bytes : ByteArray} {maxL : Nat} {ret : Option FieldType}
    (hM : vx_Met l y ws rm Pc Qc XC mc ms free) (hblind : FrameBlind Pc) (hrc : rm.cells = mc) (hrs : rm.slots = ms)
    (hframes : rm.frames + 1 ≤ R.frames) (hlocals : W9 + (maxL + 11) + rm.locals ≤ R.locals)
    (hws : ∀ w ∈ ws, ∀ a' U, s.WarmedH U.vm → w.before a' U = true) (hcode : Cond.code y bytes maxL ret ∈ ws) (hinit : ∀ a' U, s.WarmedH U.vm → (Cond.initialized y.cls).before a' U = true) :
    vx_Back l R p e below s sargs y len W9 (PreOf R mc ms Pc) (PostOf Qc mc ms free) (vx_Post XC mc ms free) := by
  intro m meth c A g ig mk a X hg hsize hdg hW hn hp
  have h1 : (headSpec ws rm).pre.before a A.U = true := atoms_intro fun w hw => hws w hw _ _ X.warmed
  have h2 : (Cond.code y bytes maxL ret).before a A.U = true := hws _ hcode _ _ X.warmed
  have h3 : (Cond.initialized y.cls).before a A.U = true := hinit _ _ X.warmed
  have h4 : A.cells + (headSpec ws rm).room.cells ≤ R.cells := by rw [show (headSpec ws rm).room.cells = mc from hrc]; exact hp.1
  have h5 : A.slots + (headSpec ws rm).room.slots ≤ R.slots := by rw [show (headSpec ws rm).room.slots = ms from hrs]; exact hp.2.1
  have hPc : Pc a (A.U.calling g mk a) := hblind _ _ _ _ hp.2.2
  obtain ⟨U, Ls, c0, s0⟩ := A
  dsimp only [Pt.U, Pt.locs, Pt.cells, Pt.slots] at h1 h2 h3 h4 h5 X hn hPc ⊢
  obtain ⟨methY, cY, hmY, hcY, -, hlY, -, -, -, -⟩ := Cond.code_spec hn h2
  obtain ⟨kY, hkY, -⟩ := className_of_methodNamed hn
  have hinitY : kY.init = .initialized := Cond.initialized_spec (findClass_of_methodNamed hn) hkY h3
  have h : At U g.method c below := by rw [hg]; exact X.here
  have hlocals9 : W9 + (maxL + 11) + (headSpec ws rm).room.locals ≤ R.locals := hlocals
  have happ : (headSpec ws rm).appliesLoose y e.platform (U.calling g mk a) = true :=
    Spec.appliesLoose_calling (g := g) h hdg hn hkY hinitY
      (X.room_calling (g := g) (R' := (headSpec ws rm).room) hsize hmY hcY hframes (by rw [hlY]; omega) h4 h5) h1
  obtain ⟨mid, hmid⟩ := h.above
  have hfr : (U.setTop g).frames = (.java g :: mid) ++ below := by rw [State.frames_setTop' g h.top, hmid]; rfl
  obtain ⟨o, s₂, hsteps, -, hend, hq⟩ := Steps.callFree hM p X.admits X.cas X.clock (acts := []) hfr happ hPc trivial
  have hq' : vx_Q Qc XC mc ms free a (U.calling g mk a) o s₂ := hq
  rw [State.frames_setTop' g h.top] at hend
  obtain ⟨g₀, hg0⟩ := Option.isSome_iff_exists.mp h.top
  obtain ⟨r, hr⟩ := State.topJava?_eq_some.mp hg0
  have hr' : (({ U with heap := s₂.heap, slotsUsed := s₂.slotsUsed } : State).setVm s₂.vm).frames = .java g₀ :: r := hr
  rcases hq' with ⟨hqc, L, hfe, hL⟩ | ⟨q, rfl, E, ce, L, hx, hce, hcv, hcl, hW₂, hsm, hL⟩
  · obtain ⟨⟨v, rfl⟩, hW₂, e2, q2, q3, q4, q5, q6⟩ := id hfe
    have e3 : s₂ = ({ (U.calling g mk a).setFrames s₂.frames with heap := s₂.heap, slotsUsed := s₂.slotsUsed } : State).setVm s₂.vm := by
      have : s₂ = ({ s₂ with vm := (U.calling g mk a).vm } : State).setVm s₂.vm := rfl
      rw [e2] at this
      exact this
    obtain ⟨c₂, i₂, len₂, hc₂, hd₂, hf₂⟩ := hend
    have hW' : U.WarmedH s₂.vm := hW₂
    have hcc : c₂ = c := by
      have h1 : s₂.code? g.method = U.code? g.method := by
        rw [State.code?_eq, State.code?_eq, hW'.alike.method?]
      exact Option.some.inj (hc₂.symm.trans (h1.trans h.code))
    subst hcc
    have hlen : len₂ = len := by rw [hdg] at hd₂; cases hd₂; rfl
    subst hlen
    have hs₂ : s₂ = (({ U with heap := s₂.heap, slotsUsed := s₂.slotsUsed } : State).setVm s₂.vm).setTop { g with pc := g.pc + len₂, stack := v.toList ++ g.stack } := by
      refine e3.trans ?_
      rw [hf₂, State.calling_eq h.top, State.setFrames_setFrames, State.setTop_of_frames _ hr', hr]
      rfl
    have hsame : U.sameButNew ({ U with heap := s₂.heap, slotsUsed := s₂.slotsUsed } : State) L mc ms := by
      refine ⟨?_, q2, q3, q4, q5, q6⟩
      obtain ⟨t, ht, -⟩ := State.frames_cons hr
      show ({ U with heap := s₂.heap, slotsUsed := s₂.slotsUsed } : State) = { U.setFrames U.frames with heap := s₂.heap, slotsUsed := s₂.slotsUsed }
      rw [State.setFrames_self ht]
    subst hg
    refine Or.inl ⟨v, ⟨(({ U with heap := s₂.heap, slotsUsed := s₂.slotsUsed } : State).setVm s₂.vm), Ls ++ L, c0 + mc, s0 + ms⟩,
      ⟨X.admits, X.cas, X.clock, X.frames, X.room, X.hears, X.method, X.code, (X.here.setHeapUsed s₂.heap s₂.slotsUsed).setVm hW'.alike, X.tail, State.WarmedH.trans X.warmed hW', X.limits, X.bytes, X.same.trans (hsame.setVm s.vm)⟩,
      ⟨g, mk, s₂, L, rfl, rfl, hqc, rfl, hL, rfl, rfl⟩, ?_⟩
    show Steps p.tables e below _ ((({ U with heap := s₂.heap, slotsUsed := s₂.slotsUsed } : State).setVm s₂.vm).setTop { g with pc := g.pc + len₂, stack := v.toList ++ g.stack })
    rw [← hs₂]
    exact hsteps
  · obtain ⟨e2, q2, q3, q4, q5, q6⟩ := id hsm
    have e3 : s₂ = ({ (U.calling g mk a).setFrames s₂.frames with heap := s₂.heap, slotsUsed := s₂.slotsUsed } : State).setVm s₂.vm := by
      have : s₂ = ({ s₂ with vm := (U.calling g mk a).vm } : State).setVm s₂.vm := rfl
      rw [e2] at this
      exact this
    have hf₂ : s₂.frames = .throwing q :: .java g :: U.frames.tail := hend
    have hW' : U.WarmedH s₂.vm := hW₂
    have hs₂ : s₂ = ((({ U with heap := s₂.heap, slotsUsed := s₂.slotsUsed } : State).setVm s₂.vm).setTop g).pushFrame (.throwing q) := by
      refine e3.trans ?_
      rw [hf₂, State.calling_eq h.top, State.setFrames_setFrames, State.pushFrame, State.frames_setTop _ hr', State.setTop_of_frames _ hr', State.setFrames_setFrames, hr]
      rfl
    have hsame : U.sameButNew ({ U with heap := s₂.heap, slotsUsed := s₂.slotsUsed } : State) L mc ms := by
      refine ⟨?_, q2, q3, q4, q5, q6⟩
      obtain ⟨t, ht, -⟩ := State.frames_cons hr
      show ({ U with heap := s₂.heap, slotsUsed := s₂.slotsUsed } : State) = { U.setFrames U.frames with heap := s₂.heap, slotsUsed := s₂.slotsUsed }
      rw [State.setFrames_self ht]
    subst hg
    refine Or.inr ⟨q, ⟨(({ U with heap := s₂.heap, slotsUsed := s₂.slotsUsed } : State).setVm s₂.vm), Ls ++ L, c0 + mc, s0 + ms⟩,
      ⟨X.admits, X.cas, X.clock, X.frames, X.room, X.hears, X.method, X.code, (X.here.setHeapUsed s₂.heap s₂.slotsUsed).setVm hW'.alike, X.tail, State.WarmedH.trans X.warmed hW', X.limits, X.bytes, X.same.trans (hsame.setVm s.vm)⟩,
      ⟨g, mk, s₂, L, E, ce, rfl, rfl, hx, hce, hcv, hcl, rfl, hL, rfl, rfl⟩, ?_⟩
    show Steps p.tables e below _ (((({ U with heap := s₂.heap, slotsUsed := s₂.slotsUsed } : State).setVm s₂.vm).setTop g).pushFrame (.throwing q))
    rw [← hs₂]
    exact hsteps
end Payer
section Calls
variable {p : Program} {l : Launch} {e : Env} {R : Room} {s : State} {m : MethodId} {args : Array Value} {below : List Frame} {meth : Method} {c : Code} {T : State} {locs : List Loc} {cells slots : Nat}
theorem vx_callV (X : Stand p l e R s m args below meth c T locs cells slots) (hexec : p.tables.exec = Jvm.exec) {own C : String} {index : Nat} {y : MethodName} {bytes : ByteArray} {maxL : Nat} {ret : Option FieldType}
    (hown : s.vm.findClass own = some m.cls) (hlink : (Cond.methodLink own index y).before args s = true) (hinst : (Cond.instanceMethod y).before args s = true) (hsel : (Cond.selects C y y).before args s = true)
    (hcode : (Cond.code y bytes maxL ret).before args s = true) (hy : y.cls ≠ "java/lang/invoke/MethodHandle" ∧ y.cls ≠ "java/lang/invoke/VarHandle")
    {W9 : Nat} {Pre : Pt → Array Value → Prop} {Post : Pt → Array Value → Option Value → Pt → Prop} {PostX : Pt → Array Value → Addr → Pt → Prop} (hK : vx_Back l R p e below s args y 3 W9 Pre Post PostX)
    {b : Addr} {cellB : Cell} (hcell : T.heap[b]? = some cellB) (hobj : cellB.vm.isStatics = false) (hcls : s.vm.findClass C = some cellB.cls)
    {g : JFrame} (hg : g.method = m) (hsize : g.locals.size = c.maxLocals) {argsL rest : List Value} (hlen : ∀ sig, parseMethodDescriptor y.desc = some sig → argsL.length = sig.parameters.length)
    (hstack : g.stack = argsL.reverse ++ .ref b :: rest) (hW : 2 * g.monitorRoom + (rest.map fun v => v.category).sum ≤ W9) (hdg : decode c.code g.pc = .ok (.invokevirtual index, 3))
    (hpre : ∀ vm₁, s.WarmedH vm₁ → Pre ⟨T.setVm vm₁, locs, cells, slots⟩ (Value.ref b :: argsL).toArray) :
    (∃ (v : Option Value) (vm₁ : Vm) (B : Pt), s.WarmedH vm₁ ∧ Stand p l e R s m args below meth c B.U B.locs B.cells B.slots ∧ Post ⟨T.setVm vm₁, locs, cells, slots⟩ (Value.ref b :: argsL).toArray v B ∧
      ∀ target, Steps p.tables e below (B.U.setTop { g with pc := g.pc + 3, stack := v.toList ++ rest }) target → Steps p.tables e below (T.setTop g) target) ∨
    (∃ (q : Addr) (vm₁ : Vm) (B : Pt), s.WarmedH vm₁ ∧ Stand p l e R s m args below meth c B.U B.locs B.cells B.slots ∧ PostX ⟨T.setVm vm₁, locs, cells, slots⟩ (Value.ref b :: argsL).toArray q B ∧
      Steps p.tables e below (T.setTop g) ((B.U.setTop { g with stack := rest }).pushFrame (.throwing q))) := by
  obtain ⟨mk, methM, hnamed, hmethM, hstM, habM⟩ := Cond.instanceMethod_spec hinst
  obtain ⟨methM', cM, hmethM', -, -, -, -, -, -, hsigM⟩ := Cond.code_spec hnamed hcode
  cases hmethM.symm.trans hmethM'
  obtain ⟨c2, r2, m2, q1, q2, q3, q4, kP, hkP, hkPi⟩ := Cond.selects_spec hsel
  cases hcls.symm.trans q1
  cases (State.methodFound?_of_named hnamed hy).symm.trans q2
  cases hnamed.symm.trans q3
  have hselP : selectMethod e.platform s.vm cellB.cls mk = .method mk := by rw [Launch.admits_selectMethod X.admits]; exact q4
  obtain ⟨vm₁, X₁, hstep₁⟩ := X.invokevirtual hexec hown hlink hnamed hmethM hstM hkP hkPi hy (a := b) (cell := cellB) hcell
    (fun z h => by rw [h] at hobj; cases hobj) hselP hmethM habM hkP hkPi (g := g) hg (argsL := argsL) (rest := rest) (hlen _ hsigM) hstack hdg
  rcases hK m meth c ⟨T.setVm vm₁, locs, cells, slots⟩ { g with stack := rest } (.invokevirtual index) mk (Value.ref b :: argsL).toArray X₁ hg hsize hdg hW (X₁.named hnamed) (hpre vm₁ X₁.warmed) with ⟨v, B, X', hpost, hsteps⟩ | ⟨q, B, X', hpost, hsteps⟩
  · exact Or.inl ⟨v, vm₁, B, X₁.warmed, X', hpost, fun target h => hstep₁ _ fun acts => by rw [doInvoke_state]; exact hsteps.trans h⟩
  · exact Or.inr ⟨q, vm₁, B, X₁.warmed, X', hpost, hstep₁ _ fun acts => by rw [doInvoke_state]; exact hsteps⟩
theorem vx_callS (X : Stand p l e R s m args below meth c T locs cells slots) (hexec : p.tables.exec = Jvm.exec) {own : String} {index : Nat} {y : MethodName} {bytes : ByteArray} {maxL : Nat} {ret : Option FieldType}
    (hown : s.vm.findClass own = some m.cls) (hlink : (Cond.methodLink own index y).before args s = true) (hstat : (Cond.static y).before args s = true) (hinit : (Cond.initialized y.cls).before args s = true)
    (hcode : (Cond.code y bytes maxL ret).before args s = true) (hy : y.cls ≠ "java/lang/invoke/MethodHandle" ∧ y.cls ≠ "java/lang/invoke/VarHandle")
    {W9 : Nat} {Pre : Pt → Array Value → Prop} {Post : Pt → Array Value → Option Value → Pt → Prop} {PostX : Pt → Array Value → Addr → Pt → Prop} (hK : vx_Back l R p e below s args y 3 W9 Pre Post PostX)
    {g : JFrame} (hg : g.method = m) (hsize : g.locals.size = c.maxLocals) {argsL rest : List Value} (hlen : ∀ sig, parseMethodDescriptor y.desc = some sig → argsL.length = sig.parameters.length)
    (hstack : g.stack = argsL.reverse ++ rest) (hW : 2 * g.monitorRoom + (rest.map fun v => v.category).sum ≤ W9) (hdg : decode c.code g.pc = .ok (.invokestatic index, 3))
    (hpre : ∀ vm₁, s.WarmedH vm₁ → Pre ⟨T.setVm vm₁, locs, cells, slots⟩ argsL.toArray) :
    (∃ (v : Option Value) (vm₁ : Vm) (B : Pt), s.WarmedH vm₁ ∧ Stand p l e R s m args below meth c B.U B.locs B.cells B.slots ∧ Post ⟨T.setVm vm₁, locs, cells, slots⟩ argsL.toArray v B ∧
      ∀ target, Steps p.tables e below (B.U.setTop { g with pc := g.pc + 3, stack := v.toList ++ rest }) target → Steps p.tables e below (T.setTop g) target) ∨
    (∃ (q : Addr) (vm₁ : Vm) (B : Pt), s.WarmedH vm₁ ∧ Stand p l e R s m args below meth c B.U B.locs B.cells B.slots ∧ PostX ⟨T.setVm vm₁, locs, cells, slots⟩ argsL.toArray q B ∧
      Steps p.tables e below (T.setTop g) ((B.U.setTop { g with stack := rest }).pushFrame (.throwing q))) := by
  obtain ⟨mk, hnamed⟩ := Cond.code_named hcode
  obtain ⟨methM, cM, hmethM, -, -, -, -, -, -, hsigM⟩ := Cond.code_spec hnamed hcode
  have hstatic : methM.isStatic = true := Cond.static_spec hnamed hmethM hstat
  obtain ⟨kP, hkP, -⟩ := className_of_methodNamed hnamed
  have hinitP : kP.init = .initialized := Cond.initialized_spec (findClass_of_methodNamed hnamed) hkP hinit
  obtain ⟨vm₁, X₁, hstep₁⟩ := X.invokestatic hexec hown hlink hnamed hmethM hstatic hkP hinitP hy (g := g) hg (argsL := argsL) (rest := rest) (hlen _ hsigM) hstack hdg
  rcases hK m meth c ⟨T.setVm vm₁, locs, cells, slots⟩ { g with stack := rest } (.invokestatic index) mk argsL.toArray X₁ hg hsize hdg hW (X₁.named hnamed) (hpre vm₁ X₁.warmed) with ⟨v, B, X', hpost, hsteps⟩ | ⟨q, B, X', hpost, hsteps⟩
  · exact Or.inl ⟨v, vm₁, B, X₁.warmed, X', hpost, fun target h => hstep₁ _ fun acts => by rw [doInvoke_state]; exact hsteps.trans h⟩
  · exact Or.inr ⟨q, vm₁, B, X₁.warmed, X', hpost, hstep₁ _ fun acts => by rw [doInvoke_state]; exact hsteps⟩
end Calls
theorem vx_cls {s : State} {T : State} {vm₁ : Vm} {E : String} {k : ClassId} (hW : s.WarmedH vm₁) (h : (T.setVm vm₁).vm.findClass E = some k) : s.vm.findClass E = some k := by
  have h1 : vm₁.findClass E = some k := h
  rw [hW.alike.findClass] at h1
  exact h1
/-- the method's frame g, with q thrown over it -/
def vx_W (p : Program) (l : Launch) (e : Env) (R : Room) (s : State) (m : MethodId) (args : Array Value) (below : List Frame) (meth : Method) (c : Code) (H : Heap) (locs : List Loc) (cells slots : Nat) (Q : State → Prop) (g : JFrame) (q : Addr) : Prop :=
  ∀ T : State, T.heap = H → Stand p l e R s m args below meth c T locs cells slots → ∃ t, Steps p.tables e below ((T.setTop g).pushFrame (.throwing q)) t ∧ Q t
def vx_Run (p : Program) (l : Launch) (e : Env) (R : Room) (s : State) (m : MethodId) (args : Array Value) (below : List Frame) (meth : Method) (c : Code) (H : Heap) (locs : List Loc) (cells slots mc ms : Nat) (g : JFrame) (rest : List Value) (Qa : State → Outcome → State → Prop) (XC : String → State → State → Prop) (free : Addr → Prop) : Prop :=
  ∀ T : State, T.heap = H → Stand p l e R s m args below meth c T locs cells slots →
    (∃ (v : Option Value) (st₀ t T' : State) (L : List Loc), st₀.heap = H ∧ Stand p l e R s m args below meth c T' (locs ++ L) (cells + mc) (slots + ms) ∧ (∀ q ∈ L, free q.base) ∧ T'.heap = t.heap ∧ T'.vm = t.vm ∧ Qa st₀ (.returned v) t ∧
      Goes p e below T g T' { g with pc := g.pc + 3, stack := v.toList ++ rest }) ∨
    (∃ (q : Addr) (st₀ t T' : State) (L : List Loc) (E : String) (ce : Cell), st₀.heap = H ∧ Stand p l e R s m args below meth c T' (locs ++ L) (cells + mc) (slots + ms) ∧ (∀ z ∈ L, free z.base) ∧ T'.heap = t.heap ∧ T'.vm = t.vm ∧ XC E st₀ t ∧ t.heap[q]? = some ce ∧ ce.vm = .none ∧ s.vm.findClass E = some ce.cls ∧
      Steps p.tables e below (T.setTop g) ((T'.setTop { g with stack := rest }).pushFrame (.throwing q)))
def vx_X {S : Type} (px : S → Prop) (B : String → S → State → Prop) (A : Nat → Prop) : String → State → State → Prop := fun E st t => ∃ u : S, px u ∧ B E u t ∧ va_F A st t
section Runs
variable {p : Program} {l : Launch} {e : Env} {R : Room} {s : State} {m : MethodId} {args : Array Value} {below : List Frame} {meth : Method} {c : Code} {H : Heap} {locs : List Loc} {cells slots : Nat}
variable {y : MethodName} {bytes cc : ByteArray} {maxL nL mc ms n index : Nat} {ret : Option FieldType} {ws : List Cond} {rm : Room} {Pc : Array Value → State → Prop} {Qc : Array Value → State → Outcome → State → Prop} {XC : String → State → State → Prop} {free : Addr → Prop} {Ts : List Cond} {own C : String} {b : Addr} {As rest : List Value} {g : JFrame}
theorem vx_callBack (cb : CallB R s args own index y bytes maxL ret ws rm mc ms n) (hM : vx_Met l y ws rm Pc Qc XC mc ms free) (hbl : FrameBlind Pc) : vx_Back l R p e below s args y 3 8 (PreOf R mc ms Pc) (PostOf Qc mc ms free) (vx_Post XC mc ms free) := by
  obtain ⟨hrc, hrs, hfr, hlo, hws, hcw, -, hini, -⟩ := cb
  exact vx_back (bytes := bytes) (maxL := maxL) (ret := ret) hM hbl hrc hrs hfr hlo hws hcw (fun a' U hW => word_at hW (Or.inl (by first | rfl | simp [Cond.onTables, Cond.keeps, Cond.steady])) hini)
theorem vx_runV (S : CallFix p m c cc nL s args Ts own) (hM : vx_Met l y ws rm Pc Qc XC mc ms free) (cw : CallW R s args own C index y bytes maxL ret ws rm mc ms n) (hp : PreV s H C b Pc As)
    (hg : g.method = m) (hn : As.length = n) (hsize : g.locals.size = nL) (hstack : g.stack = As.reverse ++ .ref b :: rest) (hW : 2 * g.monitorRoom + (rest.map fun v => v.category).sum ≤ 8) (hdg : decode cc g.pc = .ok (.invokevirtual index, 3)) (hf : cells + mc ≤ R.cells ∧ slots + ms ≤ R.slots) :
    vx_Run p l e R s m args below meth c H locs cells slots mc ms g rest (Qc (Value.ref b :: As).toArray) XC free := by
  have hK : vx_Back l R p e below s args y 3 8 (PreOf R mc ms Pc) (PostOf Qc mc ms free) (vx_Post XC mc ms free) := vx_callBack cw.1 hM hp.1
  obtain ⟨⟨-, -, -, -, -, -, hcode, -, hy, hlen, hl⟩, hin, hse⟩ := cw
  obtain ⟨hx, hb, hml, ho, -⟩ := S
  obtain ⟨-, ⟨cellB, hcB, hoB, hclB⟩, hPc⟩ := hp
  intro T hT X
  rcases vx_callV X hx (C := C) (bytes := bytes) (maxL := maxL) (ret := ret) ho hl hin hse hcode hy hK (by rw [hT]; exact hcB) hoB hclB hg (hsize.trans hml.symm) (argsL := As) (rest := rest) (fun sig h => hn.trans (hlen sig h)) hstack hW (by rw [hb]; exact hdg)
    (fun vm₁ hW₁ => ⟨hf.1, hf.2, hPc (T.setVm vm₁) hT hW₁⟩) with ⟨v, vm₁, ⟨U', l2, c2, s2⟩, hW₁, X', ⟨g', mk, t, L, e1, e2, hq, h1, hL, h2, h3⟩, st⟩ | ⟨q, vm₁, ⟨U', l2, c2, s2⟩, hW₁, X', ⟨g', mk, t, L, E, ce, e1, e2, hq, hce, hcv, hcl, h1, hL, h2, h3⟩, st⟩
  · dsimp only [Pt.U, Pt.locs, Pt.cells, Pt.slots] at X' e1 e2 h1 h2 h3 st
    subst h1; subst h2; subst h3
    exact Or.inl ⟨v, (T.setVm vm₁).calling g' mk (Value.ref b :: As).toArray, t, U', L, hT, X', hL, e1, e2, hq, st⟩
  · dsimp only [Pt.U, Pt.locs, Pt.cells, Pt.slots] at X' e1 e2 h1 h2 h3 st hcl
    subst h1; subst h2; subst h3
    exact Or.inr ⟨q, (T.setVm vm₁).calling g' mk (Value.ref b :: As).toArray, t, U', L, E, ce, hT, X', hL, e1, e2, hq, hce, hcv, vx_cls hW₁ hcl, st⟩
theorem vx_runS (S : CallFix p m c cc nL s args Ts own) (hM : vx_Met l y ws rm Pc Qc XC mc ms free) (cw : CallB R s args own index y bytes maxL ret ws rm mc ms n ∧ (Cond.static y).before args s = true) (hp : PreS s H Pc As)
    (hg : g.method = m) (hn : As.length = n) (hsize : g.locals.size = nL) (hstack : g.stack = As.reverse ++ rest) (hW : 2 * g.monitorRoom + (rest.map fun v => v.category).sum ≤ 8) (hdg : decode cc g.pc = .ok (.invokestatic index, 3)) (hf : cells + mc ≤ R.cells ∧ slots + ms ≤ R.slots) :
    vx_Run p l e R s m args below meth c H locs cells slots mc ms g rest (Qc As.toArray) XC free := by
  have hK : vx_Back l R p e below s args y 3 8 (PreOf R mc ms Pc) (PostOf Qc mc ms free) (vx_Post XC mc ms free) := vx_callBack cw.1 hM hp.1
  obtain ⟨⟨-, -, -, -, -, -, hcode, hini, hy, hlen, hl⟩, hstt⟩ := cw
  obtain ⟨hx, hb, hml, ho, -⟩ := S
  intro T hT X
  rcases vx_callS X hx (bytes := bytes) (maxL := maxL) (ret := ret) ho hl hstt hini hcode hy hK hg (hsize.trans hml.symm) (argsL := As) (rest := rest) (fun sig h => hn.trans (hlen sig h)) hstack hW (by rw [hb]; exact hdg)
    (fun vm₁ hW₁ => ⟨hf.1, hf.2, hp.2 (T.setVm vm₁) hT hW₁⟩) with ⟨v, vm₁, ⟨U', l2, c2, s2⟩, hW₁, X', ⟨g', mk, t, L, e1, e2, hq, h1, hL, h2, h3⟩, st⟩ | ⟨q, vm₁, ⟨U', l2, c2, s2⟩, hW₁, X', ⟨g', mk, t, L, E, ce, e1, e2, hq, hce, hcv, hcl, h1, hL, h2, h3⟩, st⟩
  · dsimp only [Pt.U, Pt.locs, Pt.cells, Pt.slots] at X' e1 e2 h1 h2 h3 st
    subst h1; subst h2; subst h3
    exact Or.inl ⟨v, (T.setVm vm₁).calling g' mk As.toArray, t, U', L, hT, X', hL, e1, e2, hq, st⟩
  · dsimp only [Pt.U, Pt.locs, Pt.cells, Pt.slots] at X' e1 e2 h1 h2 h3 st hcl
    subst h1; subst h2; subst h3
    exact Or.inr ⟨q, (T.setVm vm₁).calling g' mk As.toArray, t, U', L, E, ce, hT, X', hL, e1, e2, hq, hce, hcv, vx_cls hW₁ hcl, st⟩
end Runs
section Rows
variable {p : Program} {l : Launch} {e : Env} {R : Room} {s : State} {m : MethodId} {args : Array Value} {below : List Frame} {meth : Method} {c : Code} {H : Heap} {locs : List Loc} {cells slots : Nat} {Q : State → Prop}
variable {mc ms : Nat} {free : Addr → Prop} {A0 A1 : Nat → Prop} {H0 : Heap} {a : Array Value} {pc : Nat} {ls : Array Slot} {st0 rest : List Value}
theorem vx_keep {st₀ t T' : State} {L : List Loc} (h0 : st₀.heap = H) (e1 : T'.heap = t.heap) (hS : va_S A0 H0 H locs) (hA : ∀ q, q < H.size → A1 q → A0 q) (hf : ∀ q, free q → A0 q) (hL : ∀ q ∈ L, free q.base) (hF : va_F A1 st₀ t) :
    H.size ≤ T'.heap.size ∧ (∀ q : Nat, q < H.size → ¬ A1 q → T'.heap[q]? = H[q]?) ∧ va_S A0 H0 T'.heap (locs ++ L) := by
  obtain ⟨hz, hk⟩ := hF
  rw [h0] at hz hk
  exact ⟨by rw [e1]; exact hz, fun q h1 h2 => by rw [e1]; exact hk q h1 h2,
    ⟨Nat.le_trans hS.1 (by rw [e1]; exact hz), fun q h1 h2 => by rw [e1, hk q (Nat.lt_of_lt_of_le h1 hS.1) (fun z => h2 (hA q (Nat.lt_of_lt_of_le h1 hS.1) z))]; exact hS.2.1 q h1 h2, fun q hq => by
      rcases List.mem_append.mp hq with h | h
      · exact hS.2.2 q h
      · exact hf _ (hL q h)⟩⟩
theorem vx_calli {S SX : Type} {post : Int32 → S → Prop} {px : SX → Prop} {B : S → State → Prop} {BX : String → SX → State → Prop} {AX : Nat → Prop} (hr : vx_Run p l e R s m args below meth c H locs cells slots mc ms (F0 m pc ls st0) rest (va_Qi post B A1 a) (vx_X px BX AX) free) (hS : va_S A0 H0 H locs) (hA : ∀ q, q < H.size → A1 q → A0 q) (hf : ∀ q, free q → A0 q) (hAX : ∀ q, q < H.size → AX q → A0 q)
    (kx : ∀ (E : String) (ce : Cell) (q9 : Addr) (u : SX) (t : State) (H1 : Heap) (locs1 : List Loc), t.heap = H1 → s.vm.Alike t.vm → px u → BX E u t → H.size ≤ H1.size → (∀ q : Nat, q < H.size → ¬ AX q → H1[q]? = H[q]?) → va_S A0 H0 H1 locs1 → H1[q9]? = some ce → ce.vm = .none → s.vm.findClass E = some ce.cls → vx_W p l e R s m args below meth c H1 locs1 (cells + mc) (slots + ms) Q (F0 m pc ls rest) q9)
    (kk : ∀ (r : Int32) (u : S) (t : State) (H1 : Heap) (locs1 : List Loc), t.heap = H1 → s.vm.Alike t.vm → post r u → B u t → H.size ≤ H1.size → (∀ q : Nat, q < H.size → ¬ A1 q → H1[q]? = H[q]?) → va_S A0 H0 H1 locs1 → W p l e R s m args below meth c H1 locs1 (cells + mc) (slots + ms) Q (F0 m (pc + 3) ls (.int r :: rest))) : W p l e R s m args below meth c H locs cells slots Q (F0 m pc ls st0) := by
  intro T hT X
  rcases hr T hT X with ⟨v, st₀, t, T', L, h0, X', hL, e1, e2, ⟨⟨r, u, hv, hp, hb⟩, hF⟩, st⟩ | ⟨q, st₀, t, T', L, E, ce, h0, X', hL, e1, e2, ⟨u, hp, hb, hF⟩, hce, hcv, hcl, st⟩
  · cases hv
    obtain ⟨k1, k2, k3⟩ := vx_keep h0 e1 hS hA hf hL hF
    obtain ⟨t2, a1, b1⟩ := kk r u t T'.heap (locs ++ L) e1.symm (by rw [← e2]; exact X'.warmed.alike) hp hb k1 k2 k3 T' rfl X'
    exact ⟨t2, st t2 a1, b1⟩
  · obtain ⟨k1, k2, k3⟩ := vx_keep h0 e1 hS hAX hf hL hF
    obtain ⟨t2, a1, b1⟩ := kx E ce q u t T'.heap (locs ++ L) e1.symm (by rw [← e2]; exact X'.warmed.alike) hp hb k1 k2 k3 (by rw [e1]; exact hce) hcv hcl T' rfl X'
    exact ⟨t2, st.trans a1, b1⟩
theorem vx_calll {S SX : Type} {post : Int64 → S → Prop} {px : SX → Prop} {B : S → State → Prop} {BX : String → SX → State → Prop} {AX : Nat → Prop} (hr : vx_Run p l e R s m args below meth c H locs cells slots mc ms (F0 m pc ls st0) rest (va_Ql post B A1 a) (vx_X px BX AX) free) (hS : va_S A0 H0 H locs) (hA : ∀ q, q < H.size → A1 q → A0 q) (hf : ∀ q, free q → A0 q) (hAX : ∀ q, q < H.size → AX q → A0 q)
    (kx : ∀ (E : String) (ce : Cell) (q9 : Addr) (u : SX) (t : State) (H1 : Heap) (locs1 : List Loc), t.heap = H1 → s.vm.Alike t.vm → px u → BX E u t → H.size ≤ H1.size → (∀ q : Nat, q < H.size → ¬ AX q → H1[q]? = H[q]?) → va_S A0 H0 H1 locs1 → H1[q9]? = some ce → ce.vm = .none → s.vm.findClass E = some ce.cls → vx_W p l e R s m args below meth c H1 locs1 (cells + mc) (slots + ms) Q (F0 m pc ls rest) q9)
    (kk : ∀ (r : Int64) (u : S) (t : State) (H1 : Heap) (locs1 : List Loc), t.heap = H1 → s.vm.Alike t.vm → post r u → B u t → H.size ≤ H1.size → (∀ q : Nat, q < H.size → ¬ A1 q → H1[q]? = H[q]?) → va_S A0 H0 H1 locs1 → W p l e R s m args below meth c H1 locs1 (cells + mc) (slots + ms) Q (F0 m (pc + 3) ls (.long r :: rest))) : W p l e R s m args below meth c H locs cells slots Q (F0 m pc ls st0) := by
  intro T hT X
  rcases hr T hT X with ⟨v, st₀, t, T', L, h0, X', hL, e1, e2, ⟨⟨r, u, hv, hp, hb⟩, hF⟩, st⟩ | ⟨q, st₀, t, T', L, E, ce, h0, X', hL, e1, e2, ⟨u, hp, hb, hF⟩, hce, hcv, hcl, st⟩
  · cases hv
    obtain ⟨k1, k2, k3⟩ := vx_keep h0 e1 hS hA hf hL hF
    obtain ⟨t2, a1, b1⟩ := kk r u t T'.heap (locs ++ L) e1.symm (by rw [← e2]; exact X'.warmed.alike) hp hb k1 k2 k3 T' rfl X'
    exact ⟨t2, st t2 a1, b1⟩
  · obtain ⟨k1, k2, k3⟩ := vx_keep h0 e1 hS hAX hf hL hF
    obtain ⟨t2, a1, b1⟩ := kx E ce q u t T'.heap (locs ++ L) e1.symm (by rw [← e2]; exact X'.warmed.alike) hp hb k1 k2 k3 (by rw [e1]; exact hce) hcv hcl T' rfl X'
    exact ⟨t2, st.trans a1, b1⟩
theorem vx_callf {S SX : Type} {post : UInt32 → S → Prop} {px : SX → Prop} {B : S → State → Prop} {BX : String → SX → State → Prop} {AX : Nat → Prop} (hr : vx_Run p l e R s m args below meth c H locs cells slots mc ms (F0 m pc ls st0) rest (va_Qf post B A1 a) (vx_X px BX AX) free) (hS : va_S A0 H0 H locs) (hA : ∀ q, q < H.size → A1 q → A0 q) (hf : ∀ q, free q → A0 q) (hAX : ∀ q, q < H.size → AX q → A0 q)
    (kx : ∀ (E : String) (ce : Cell) (q9 : Addr) (u : SX) (t : State) (H1 : Heap) (locs1 : List Loc), t.heap = H1 → s.vm.Alike t.vm → px u → BX E u t → H.size ≤ H1.size → (∀ q : Nat, q < H.size → ¬ AX q → H1[q]? = H[q]?) → va_S A0 H0 H1 locs1 → H1[q9]? = some ce → ce.vm = .none → s.vm.findClass E = some ce.cls → vx_W p l e R s m args below meth c H1 locs1 (cells + mc) (slots + ms) Q (F0 m pc ls rest) q9)
    (kk : ∀ (r : UInt32) (u : S) (t : State) (H1 : Heap) (locs1 : List Loc), t.heap = H1 → s.vm.Alike t.vm → post r u → B u t → H.size ≤ H1.size → (∀ q : Nat, q < H.size → ¬ A1 q → H1[q]? = H[q]?) → va_S A0 H0 H1 locs1 → W p l e R s m args below meth c H1 locs1 (cells + mc) (slots + ms) Q (F0 m (pc + 3) ls (.float r :: rest))) : W p l e R s m args below meth c H locs cells slots Q (F0 m pc ls st0) := by
  intro T hT X
  rcases hr T hT X with ⟨v, st₀, t, T', L, h0, X', hL, e1, e2, ⟨⟨r, u, hv, hp, hb⟩, hF⟩, st⟩ | ⟨q, st₀, t, T', L, E, ce, h0, X', hL, e1, e2, ⟨u, hp, hb, hF⟩, hce, hcv, hcl, st⟩
  · cases hv
    obtain ⟨k1, k2, k3⟩ := vx_keep h0 e1 hS hA hf hL hF
    obtain ⟨t2, a1, b1⟩ := kk r u t T'.heap (locs ++ L) e1.symm (by rw [← e2]; exact X'.warmed.alike) hp hb k1 k2 k3 T' rfl X'
    exact ⟨t2, st t2 a1, b1⟩
  · obtain ⟨k1, k2, k3⟩ := vx_keep h0 e1 hS hAX hf hL hF
    obtain ⟨t2, a1, b1⟩ := kx E ce q u t T'.heap (locs ++ L) e1.symm (by rw [← e2]; exact X'.warmed.alike) hp hb k1 k2 k3 (by rw [e1]; exact hce) hcv hcl T' rfl X'
    exact ⟨t2, st.trans a1, b1⟩
theorem vx_calld {S SX : Type} {post : UInt64 → S → Prop} {px : SX → Prop} {B : S → State → Prop} {BX : String → SX → State → Prop} {AX : Nat → Prop} (hr : vx_Run p l e R s m args below meth c H locs cells slots mc ms (F0 m pc ls st0) rest (va_Qd post B A1 a) (vx_X px BX AX) free) (hS : va_S A0 H0 H locs) (hA : ∀ q, q < H.size → A1 q → A0 q) (hf : ∀ q, free q → A0 q) (hAX : ∀ q, q < H.size → AX q → A0 q)
    (kx : ∀ (E : String) (ce : Cell) (q9 : Addr) (u : SX) (t : State) (H1 : Heap) (locs1 : List Loc), t.heap = H1 → s.vm.Alike t.vm → px u → BX E u t → H.size ≤ H1.size → (∀ q : Nat, q < H.size → ¬ AX q → H1[q]? = H[q]?) → va_S A0 H0 H1 locs1 → H1[q9]? = some ce → ce.vm = .none → s.vm.findClass E = some ce.cls → vx_W p l e R s m args below meth c H1 locs1 (cells + mc) (slots + ms) Q (F0 m pc ls rest) q9)
    (kk : ∀ (r : UInt64) (u : S) (t : State) (H1 : Heap) (locs1 : List Loc), t.heap = H1 → s.vm.Alike t.vm → post r u → B u t → H.size ≤ H1.size → (∀ q : Nat, q < H.size → ¬ A1 q → H1[q]? = H[q]?) → va_S A0 H0 H1 locs1 → W p l e R s m args below meth c H1 locs1 (cells + mc) (slots + ms) Q (F0 m (pc + 3) ls (.double r :: rest))) : W p l e R s m args below meth c H locs cells slots Q (F0 m pc ls st0) := by
  intro T hT X
  rcases hr T hT X with ⟨v, st₀, t, T', L, h0, X', hL, e1, e2, ⟨⟨r, u, hv, hp, hb⟩, hF⟩, st⟩ | ⟨q, st₀, t, T', L, E, ce, h0, X', hL, e1, e2, ⟨u, hp, hb, hF⟩, hce, hcv, hcl, st⟩
  · cases hv
    obtain ⟨k1, k2, k3⟩ := vx_keep h0 e1 hS hA hf hL hF
    obtain ⟨t2, a1, b1⟩ := kk r u t T'.heap (locs ++ L) e1.symm (by rw [← e2]; exact X'.warmed.alike) hp hb k1 k2 k3 T' rfl X'
    exact ⟨t2, st t2 a1, b1⟩
  · obtain ⟨k1, k2, k3⟩ := vx_keep h0 e1 hS hAX hf hL hF
    obtain ⟨t2, a1, b1⟩ := kx E ce q u t T'.heap (locs ++ L) e1.symm (by rw [← e2]; exact X'.warmed.alike) hp hb k1 k2 k3 (by rw [e1]; exact hce) hcv hcl T' rfl X'
    exact ⟨t2, st.trans a1, b1⟩
theorem vx_callv {S SX : Type} {post : S → Prop} {px : SX → Prop} {B : S → State → Prop} {BX : String → SX → State → Prop} {AX : Nat → Prop} (hr : vx_Run p l e R s m args below meth c H locs cells slots mc ms (F0 m pc ls st0) rest (va_Qv post B A1 a) (vx_X px BX AX) free) (hS : va_S A0 H0 H locs) (hA : ∀ q, q < H.size → A1 q → A0 q) (hf : ∀ q, free q → A0 q) (hAX : ∀ q, q < H.size → AX q → A0 q)
    (kx : ∀ (E : String) (ce : Cell) (q9 : Addr) (u : SX) (t : State) (H1 : Heap) (locs1 : List Loc), t.heap = H1 → s.vm.Alike t.vm → px u → BX E u t → H.size ≤ H1.size → (∀ q : Nat, q < H.size → ¬ AX q → H1[q]? = H[q]?) → va_S A0 H0 H1 locs1 → H1[q9]? = some ce → ce.vm = .none → s.vm.findClass E = some ce.cls → vx_W p l e R s m args below meth c H1 locs1 (cells + mc) (slots + ms) Q (F0 m pc ls rest) q9)
    (kk : ∀ (u : S) (t : State) (H1 : Heap) (locs1 : List Loc), t.heap = H1 → s.vm.Alike t.vm → post u → B u t → H.size ≤ H1.size → (∀ q : Nat, q < H.size → ¬ A1 q → H1[q]? = H[q]?) → va_S A0 H0 H1 locs1 → W p l e R s m args below meth c H1 locs1 (cells + mc) (slots + ms) Q (F0 m (pc + 3) ls (rest))) : W p l e R s m args below meth c H locs cells slots Q (F0 m pc ls st0) := by
  intro T hT X
  rcases hr T hT X with ⟨v, st₀, t, T', L, h0, X', hL, e1, e2, ⟨⟨u, hv, hp, hb⟩, hF⟩, st⟩ | ⟨q, st₀, t, T', L, E, ce, h0, X', hL, e1, e2, ⟨u, hp, hb, hF⟩, hce, hcv, hcl, st⟩
  · cases hv
    obtain ⟨k1, k2, k3⟩ := vx_keep h0 e1 hS hA hf hL hF
    obtain ⟨t2, a1, b1⟩ := kk u t T'.heap (locs ++ L) e1.symm (by rw [← e2]; exact X'.warmed.alike) hp hb k1 k2 k3 T' rfl X'
    exact ⟨t2, st t2 a1, b1⟩
  · obtain ⟨k1, k2, k3⟩ := vx_keep h0 e1 hS hAX hf hL hF
    obtain ⟨t2, a1, b1⟩ := kx E ce q u t T'.heap (locs ++ L) e1.symm (by rw [← e2]; exact X'.warmed.alike) hp hb k1 k2 k3 (by rw [e1]; exact hce) hcv hcl T' rfl X'
    exact ⟨t2, st.trans a1, b1⟩
/-- caught by the row x of this method's table; the rows ahead don't take it -/
theorem vx_catch {own name : String} {E : String} {ce : Cell} {q : Addr} (hown : s.vm.findClass own = some m.cls) (pre : List ExceptionTableEntry) (x : ExceptionTableEntry) (suf : List ExceptionTableEntry) (hsplit : c.exceptionTable.toList = pre ++ x :: suf)
    (hpass : ∀ z ∈ pre, covers z pc = false ∨ (z.catchType ≠ 0 ∧ ∃ nm : String, (Cond.classLink own z.catchType nm).before args s = true ∧ va_Nc E nm s)) (hx : covers x pc = true) (h0 : x.catchType ≠ 0)
    (hlink : (Cond.classLink own x.catchType name).before args s = true) (hcast : (Cond.castable E name).before args s = true) (hcell : H[q]? = some ce) (hv : ce.vm = .none) (hcl : s.vm.findClass E = some ce.cls)
    (kk : W p l e R s m args below meth c H locs cells slots Q (F0 m x.handlerPc ls [.ref q])) : vx_W p l e R s m args below meth c H locs cells slots Q (F0 m pc ls rest) q := by
  intro T hT X
  have hpl : e.platform.magicAccessors = ({} : Platform).magicAccessors := by rw [X.admits.platform]
  obtain ⟨c3, c4, hc3, hc4, hasg⟩ := Cond.castable_spec hcast
  cases Option.some.inj (hc3.symm.trans hcl)
  obtain ⟨c5, hc5, hcl5⟩ := Cond.classLink_spec hown hlink e.platform hpl
  cases Option.some.inj (hc4.symm.trans hc5)
  obtain ⟨vm', X', st⟩ := X.thenCaughtThrough q (g := F0 m pc ls rest) rfl (Steps.refl _) (by rw [hT]; exact hcell) (by rw [hv]; rfl) (by obtain ⟨k9, h9, -⟩ := Vm.findClass_spec hcl; exact ⟨k9, h9⟩) pre x suf hsplit
    (fun z hz => by
      rcases hpass z hz with h | ⟨hz0, nm, hl1, hn1⟩
      · exact Or.inl h
      · obtain ⟨c6, hc6, hcl6⟩ := Cond.classLink_spec hown hl1 e.platform hpl
        obtain ⟨a8, b8, h1, h2, h3⟩ := hn1
        cases Option.some.inj (h1.symm.trans hcl)
        cases Option.some.inj (h2.symm.trans hc6)
        exact Or.inr ⟨hz0, _, hcl6, h3⟩) hx (Or.inr ⟨h0, c4, hcl5, hasg⟩)
  obtain ⟨t, a1, b1⟩ := kk (T.setVm vm') hT X'
  exact ⟨t, st.trans a1, b1⟩
end Rows
section Ends
variable {p : Program} {l : Launch} {e : Env} {R : Room} {s : State} {m : MethodId} {args : Array Value} {below : List Frame} {meth : Method} {c : Code} {H : Heap} {locs : List Loc} {cells slots : Nat} {Q : State → Prop}
variable {mc ms : Nat} {free : Addr → Prop} {A0 A1 : Nat → Prop} {H0 : Heap} {a : Array Value} {ls : Array Slot} {st0 rest : List Value}
variable {Qc : Array Value → State → Outcome → State → Prop} {XC : String → State → State → Prop}
/-- what a body that may throw owes at its end -/
def vx_MQ (below : List Frame) (Qc : Array Value → State → Outcome → State → Prop) (XC : String → State → State → Prop) (a : Array Value) (s : State) (mc ms : Nat) (free : Addr → Prop) : State → Prop := fun t =>
  ∃ o, t.status = .running ∧ Ended t below o ∧ vx_Q Qc XC mc ms free a s o t
theorem vx_ret {g : JFrame} {mc ms : Nat} (k : W p l e R s m args below meth c H locs cells slots (MQ below Qc args s mc ms free) g) : W p l e R s m args below meth c H locs cells slots (vx_MQ below Qc XC args s mc ms free) g := by
  intro T hT X
  obtain ⟨t, a1, o, b1, b2, b3, b4⟩ := k T hT X
  exact ⟨t, a1, o, b1, b2, Or.inl ⟨b3, b4⟩⟩
/-- not caught here: it goes on to the caller -/
theorem vx_widen {g : JFrame} {q : Addr} {k n : Nat} (h1 : cells ≤ k) (h2 : slots ≤ n) (kk : vx_W p l e R s m args below meth c H locs k n Q g q) : vx_W p l e R s m args below meth c H locs cells slots Q g q := fun T hT X => kk T hT (stand_widen X h1 h2)
theorem vx_out {pc : Nat} {E : String} {ce : Cell} {q : Addr} {mc ms : Nat} (hout : ∀ x ∈ c.exceptionTable.toList, covers x pc = false) (hlocks : meth.locks = false) (hcell : H[q]? = some ce) (hv : ce.vm = .none) (hcl : s.vm.findClass E = some ce.cls)
    (hx : ∀ t : State, t.heap = H → s.vm.Alike t.vm → XC E s t) (hf : ∀ z ∈ locs, free z.base) (hc : cells ≤ mc) (hs : slots ≤ ms) :
    vx_W p l e R s m args below meth c H locs cells slots (vx_MQ below Qc XC args s mc ms free) (F0 m pc ls rest) q := by
  intro T hT X
  obtain ⟨st1, hrun, hend, hW, hsm⟩ := X.leaveThrown q (g := F0 m pc ls rest) rfl rfl rfl hout hlocks
  have hcell9 : (T.setFrames (.throwing q :: below)).heap[q]? = some ce := by
    show T.heap[q]? = some ce
    rw [hT]; exact hcell
  exact ⟨_, st1, .threw q, hrun, hend, Or.inr ⟨q, rfl, E, ce, locs, hx _ hT hW.alike, hcell9, hv, hcl, hW, hsm.mono hc hs, hf⟩⟩
theorem vx_frame {U : State} {k n : Nat} (h : s.sameButNew ({ U with vm := s.vm } : State) locs k n) : s.heap.size ≤ U.heap.size ∧ ∀ q : Nat, q < s.heap.size → (∀ z ∈ locs, z.base ≠ q) → U.heap[q]? = s.heap[q]? := by
  obtain ⟨-, h2, -, -, -, h6⟩ := h
  refine ⟨h2, fun q hq hz => ?_⟩
  obtain ⟨c9, e1, e2, e3, e4⟩ := h6 q _ (Array.getElem?_eq_getElem hq)
  have hs : c9.slots = (s.heap[q]).slots := Array.ext_getElem? fun i => e4 i fun hm => hz _ hm rfl
  have h9 : c9 = s.heap[q] := by
    rw [hs] at e2
    exact e2
  have e5 : U.heap[q]? = some c9 := e1
  rw [e5, h9, Array.getElem?_eq_getElem hq]
/-- the words of a throw but the four that speak of the heap -/
def vx_no (w : Cond) : Bool := decide (w ≠ .isRef (.static Bundle.tN "UNASSIGNED_STACK" Bundle.steD)) && decide (w ≠ .isRef (.static Bundle.tN "SUPPRESSED_SENTINEL" Bundle.listD)) && decide (w ≠ .laysStatic Bundle.tN "UNASSIGNED_STACK" Bundle.steD) && decide (w ≠ .laysStatic Bundle.tN "SUPPRESSED_SENTINEL" Bundle.listD)
def vx_at0 (own : String) (ic : Nat) (X : String) (names : List String) : List Cond := (Bundle.ownAtoms0 own ic X names).filter vx_no
def vx_atS (own : String) (ic : Nat) (X : String) (names : List String) : List Cond := (Bundle.ownAtoms own ic X names).filter vx_no
/-- a word that the tables alone decide, or a good one -/
def vx_ot (w : Cond) : Bool := w.onTables || goodWord w
theorem vx_ot_at {args a' : Array Value} {s U : State} {w : Cond} (hW : s.WarmedH U.vm) (hvm : s.vm = U.vm) (hg : vx_ot w = true) (h : w.before args s = true) : w.before a' U = true := by
  simp only [vx_ot, Bool.or_eq_true] at hg
  rcases hg with hg | hg
  · exact va_tabs hg hvm h
  · exact word_at hW (good_of_word hg) h
/-- a list's words: the good ones out of the method's own list, the others by premises of their own -/
theorem vx_hat {args : Array Value} {s : State} {L B : List Cond} (h1 : ∀ w ∈ L.filter goodWord, w.before args s = true) (h2 : ∀ w ∈ L.filter (fun w => !goodWord w), w ∈ B) (h3 : ∀ w ∈ B, w.before args s = true) : ∀ w ∈ L, w.before args s = true := by
  intro w hw
  by_cases g : goodWord w = true
  · exact h1 w (List.mem_filter.mpr ⟨hw, g⟩)
  · refine h3 w (h2 w (List.mem_filter.mpr ⟨hw, ?_⟩))
    show (!goodWord w) = true
    cases hgw : goodWord w
    · rfl
    · exact absurd hgw g
theorem vx_c {args : Array Value} {s : State} {w : Cond} {B : List Cond} (h : w.before args s = true) (t : ∀ w ∈ B, w.before args s = true) : ∀ w' ∈ w :: B, w'.before args s = true := fun w' h' => (List.mem_cons.mp h').elim (fun e => by rw [e]; exact h) (t w')
theorem vx_n {args : Array Value} {s : State} : ∀ w ∈ ([] : List Cond), w.before args s = true := fun _ h => nomatch h
theorem vx_own {args : Array Value} {s : State} {L : List Cond} (h1 : ∀ w ∈ L.filter vx_no, w.before args s = true)
    (hU : (Cond.isRef (.static Bundle.tN "UNASSIGNED_STACK" Bundle.steD)).before args s = true) (hN : (Cond.isRef (.static Bundle.tN "SUPPRESSED_SENTINEL" Bundle.listD)).before args s = true)
    (lU : (Cond.laysStatic Bundle.tN "UNASSIGNED_STACK" Bundle.steD).before args s = true) (lN : (Cond.laysStatic Bundle.tN "SUPPRESSED_SENTINEL" Bundle.listD).before args s = true) : ∀ w ∈ L, w.before args s = true := by
  intro w hw
  by_cases e1 : w = .isRef (.static Bundle.tN "UNASSIGNED_STACK" Bundle.steD)
  · rw [e1]; exact hU
  · by_cases e2 : w = .isRef (.static Bundle.tN "SUPPRESSED_SENTINEL" Bundle.listD)
    · rw [e2]; exact hN
    · by_cases e3 : w = .laysStatic Bundle.tN "UNASSIGNED_STACK" Bundle.steD
      · rw [e3]; exact lU
      · by_cases e4 : w = .laysStatic Bundle.tN "SUPPRESSED_SENTINEL" Bundle.listD
        · rw [e4]; exact lN
        · exact h1 w (List.mem_filter.mpr ⟨hw, by unfold vx_no; rw [decide_eq_true e1, decide_eq_true e2, decide_eq_true e3, decide_eq_true e4]; rfl⟩)
/-- where a static field lies, its class's statics cell in H -/
def vx_L (C n d : String) (A : Nat → Prop) (U : State) (H : Heap) : Prop := ∃ (c : ClassId) (k : Class) (i : Nat) (f : Field) (a : Nat) (cell : Cell), U.vm.findClass C = some c ∧ U.fieldFound? C n d = some (c, k, i, f) ∧ f.isStatic = true ∧ k.statics = some a ∧ H[a]? = some cell ∧ cell.vm.isStatics = true ∧ cell.cls = c ∧ f.slot < cell.slots.size ∧ k.staticTypes[f.slot]? = some f.type ∧ ¬ A a
theorem vx_L.moved {C n d : String} {A : Nat → Prop} {u U : State} {H : Heap} (hvm : u.vm.Alike U.vm) (h : vx_L C n d A u H) : vx_L C n d A U H := by
  obtain ⟨c, k, i, f, a, cell, h1, h2, h3, h4, h5, h6, h7, h8, h9, h10⟩ := h
  obtain ⟨k', hi', he⟩ := State.fieldFound?_setVm hvm h2
  exact ⟨c, k', i, f, a, cell, by rw [hvm.findClass]; exact h1, hi', h3, by rw [he]; exact h4, h5, h6, h7, h8, by rw [he]; exact h9, h10⟩
theorem vx_L.kept {C n d : String} {A : Nat → Prop} {U : State} {H H1 : Heap} (h : vx_L C n d A U H) (hq : ∀ a : Nat, a < H.size → ¬ A a → H1[a]? = H[a]?) : vx_L C n d A U H1 := by
  obtain ⟨c, k, i, f, a, cell, h1, h2, h3, h4, h5, h6, h7, h8, h9, h10⟩ := h
  exact ⟨c, k, i, f, a, cell, h1, h2, h3, h4, by rw [hq a (Array.getElem?_eq_some_iff.mp h5).1 h10]; exact h5, h6, h7, h8, h9, h10⟩
theorem vx_L.narrow {C n d : String} {A B : Nat → Prop} {U : State} {H : Heap} (h : vx_L C n d A U H) (hAB : ∀ q, B q → A q) : vx_L C n d B U H := by
  obtain ⟨c, k, i, f, a, cell, h1, h2, h3, h4, h5, h6, h7, h8, h9, h10⟩ := h
  exact ⟨c, k, i, f, a, cell, h1, h2, h3, h4, h5, h6, h7, h8, h9, fun z => h10 (hAB _ z)⟩
theorem vx_L.word {C n d : String} {A : Nat → Prop} {s : State} {args : Array Value} (h : vx_L C n d A s s.heap) : (Cond.laysStatic C n d).before args s = true := by
  obtain ⟨c, k, i, f, a, cell, h1, h2, h3, h4, h5, h6, h7, h8, h9, -⟩ := h
  show (Cond.laysStatic C n d).holds args s none s [] = true
  exact Cond.laysStatic_of h1 h2 h3 h4 h5 h6 h7 h8 h9
/-- .. and what it holds: null or some reference -/
def vx_Zq (C n d : String) (A : Nat → Prop) (U : State) (H : Heap) : Prop := va_Zq C n d A U H ∧ vx_L C n d A U H
theorem vx_Zq.moved {C n d : String} {A : Nat → Prop} {u U : State} {H : Heap} (hvm : u.vm.Alike U.vm) (h : vx_Zq C n d A u H) : vx_Zq C n d A U H := ⟨va_Zq.moved hvm h.1, vx_L.moved hvm h.2⟩
theorem vx_Zq.kept {C n d : String} {A : Nat → Prop} {U : State} {H H1 : Heap} (h : vx_Zq C n d A U H) (hq : ∀ a : Nat, a < H.size → ¬ A a → H1[a]? = H[a]?) : vx_Zq C n d A U H1 := ⟨va_Zq.kept h.1 hq, vx_L.kept h.2 hq⟩
theorem vx_Zq.narrow {C n d : String} {A B : Nat → Prop} {U : State} {H : Heap} (h : vx_Zq C n d A U H) (hAB : ∀ q, B q → A q) : vx_Zq C n d B U H := ⟨va_Zq.narrow h.1 hAB, vx_L.narrow h.2 hAB⟩
theorem vx_Zqof {args : Array Value} {s : State} {C n d : String} {A : Nat → Prop} (hl : (Cond.laysStatic C n d).before args s = true) (hini : (Cond.initialized C).before args s = true) (h : (Cond.isRef (.static C n d)).before args s = true) (hA : ∀ a : Nat, a < s.heap.size → ¬ A a) : vx_Zq C n d A s s.heap := by
  refine ⟨va_Zqof hl hini h hA, ?_⟩
  obtain ⟨c, k, i, f, a, cell, h1, h2, h3, h4, h5, h6, h7, h8, h9⟩ := Cond.laysStatic_spec hl
  exact ⟨c, k, i, f, a, cell, h1, h2, h3, h4, h5, h6, h7, h8, h9, hA a (Array.getElem?_eq_some_iff.mp h5).1⟩
theorem vx_isRef {C n d : String} {v : Value} {A : Nat → Prop} {s : State} {args : Array Value} (h : va_Z C n d v A s s.heap) (hv : v.isRef = true) : (Cond.isRef (.static C n d)).before args s = true := by
  obtain ⟨cf, kf, fi, f, a, cell, h1, h2, h3, h4, h5, h6, h7, -⟩ := h
  have he : (Term.static C n d).eval args s none [] s = some v := by
    simp [Term.eval, State.fieldNamed?, h1, h2, h4, h5, h6, h7]
  simp only [Cond.before, Cond.holds, Cond.value, he]
  cases v <;> simp_all [Value.isRef]
theorem vx_isRefq {C n d : String} {A : Nat → Prop} {s : State} {args : Array Value} (h : va_Zq C n d A s s.heap) : (Cond.isRef (.static C n d)).before args s = true := by
  rcases h with h | ⟨t, h⟩
  · exact vx_isRef h rfl
  · exact vx_isRef h rfl
/-- the same frame, seen from here: as if the method were called anew in this heap -/
theorem vx_rebase {T : State} (X : Stand p l e R s m args below meth c T locs cells slots) {R' : Room} (hf : R'.frames ≤ R.frames) (hl : R'.locals ≤ R.locals) (hc : cells + R'.cells ≤ R.cells) (hs : slots + R'.slots ≤ R.slots) :
    Stand p l e R' ((T.setVm s.vm).setFrames (.invoking m args :: below)) m args below meth c T [] 0 0 := by
  have htop : (T.setVm s.vm).topJava?.isSome := X.here.top
  have hF : ((T.setVm s.vm).setFrames (.invoking m args :: below)).frames = .invoking m args :: below := State.frames_setFrames _ (State.cur_lt_of_top htop)
  obtain ⟨g₀, hg0⟩ := Option.isSome_iff_exists.mp htop
  obtain ⟨r, hr⟩ := State.topJava?_eq_some.mp hg0
  have hl9 : e.platform.stackLimits (T.setVm s.vm).me = e.platform.stackLimits s.me := X.limits
  have hb9 : (T.setVm s.vm).me.stackBytes = s.me.stackBytes := X.bytes
  refine ⟨X.admits, X.cas, X.clock, hF, ?_, X.hears, X.method, X.code, X.here, X.tail, X.warmed, ?_, ?_, ?_⟩
  · have h := X.room
    have hU : ((T.setVm s.vm).setFrames (.invoking m args :: below)).localsInUse = s.localsInUse := by
      rw [State.localsInUse_invoking hF (meth := meth) (c := c) X.method X.code, State.localsInUse_invoking X.frames X.method X.code]
    simp only [State.hasRoom, Bool.and_eq_true, decide_eq_true_eq] at h ⊢
    obtain ⟨⟨⟨⟨h1, h2, h3, h4, h5, h6⟩, h7⟩, h8⟩, h9⟩ := h
    rw [X.frames, List.length_cons] at h2 h3
    have q1 := X.heapSize
    have q2 := X.used
    simp only [hF, hU, List.length_cons, State.stackLimits_setFrames, State.stackBytes_setFrames, hl9, hb9]
    refine ⟨⟨⟨⟨by omega, by omega, by omega, by omega, by omega, h6⟩, ?_⟩, ?_⟩, X.book⟩
    · show T.heap.size + R'.cells ≤ e.platform.maxCells
      omega
    · show T.slotsUsed + R'.slots ≤ e.platform.maxSlots
      omega
  · rw [State.stackLimits_setFrames]; rfl
  · rw [State.stackBytes_setFrames]; rfl
  · refine ⟨?_, Nat.le_refl _, Nat.le_refl _, ?_, ?_, fun a c9 h9 => ⟨c9, h9, rfl, rfl, fun _ _ => rfl⟩⟩
    · obtain ⟨t, ht, -⟩ := State.frames_cons hr
      show T.setVm s.vm = { ((T.setVm s.vm).setFrames (.invoking m args :: below)).setFrames (T.setVm s.vm).frames with heap := T.heap, slotsUsed := T.slotsUsed }
      rw [State.setFrames_setFrames, State.setFrames_self ht]
      rfl
    · show T.slotsUsed = T.slotsUsed + ((T.heap.toList.drop T.heap.size).map (·.slots.size)).sum
      rw [List.drop_eq_nil_of_le (Nat.le_of_eq Array.length_toList)]
      rfl
    · show ((T.heap.toList.drop T.heap.size).map (·.slots.size)).sum ≤ 0
      rw [List.drop_eq_nil_of_le (Nat.le_of_eq Array.length_toList)]
      exact Nat.le_refl _
/-- 'throw new E()': new; dup; invokespecial; athrow -/
theorem vx_throw0 {cc : ByteArray} {pc : Nat} (hexec : p.tables.exec = Jvm.exec) (hb : c.code = cc) (hl : l.stackTraces = false) {own cls : String} {names : List String} {ik ic mc ms : Nat} {A : Nat → Prop}
    (hown : s.vm.findClass own = some m.cls) (hcls : Bundle.fit cls = true) (hnames : ∀ n ∈ names, Bundle.fit n = true)
    (hk : (Cond.classLink own ik cls).before args s = true) (hini : (Cond.initialized cls).before args s = true) (hat : ∀ w ∈ vx_at0 own ic cls names, w.before args s = true)
    (hgood : ∀ w ∈ Cond.classLink own ik cls :: Cond.initialized cls :: vx_at0 own ic cls names, vx_ot w = true)
    (hU : vx_Zq Bundle.tN "UNASSIGNED_STACK" Bundle.steD A s s.heap) (hN : vx_Zq Bundle.tN "SUPPRESSED_SENTINEL" Bundle.listD A s s.heap) (hS : va_S A s.heap H locs) (hsize : ls.size = c.maxLocals)
    (d0 : decode cc pc = .ok (.new ik, 3)) (d3 : decode cc (pc + 3) = .ok (.dup, 1)) (d4 : decode cc (pc + 4) = .ok (.invokespecial ic, 3)) (d7 : decode cc (pc + 7) = .ok (.athrow, 1))
    (hout : ∀ x ∈ c.exceptionTable.toList, covers x (pc + 7) = false)
    (hRframes : names.length + 3 < R.frames) (hRlocals : (rest.map fun v => v.category).sum + (13 * (names.length + 1) + 42) ≤ R.locals) (hRcells : cells + 1 ≤ R.cells) (hRslots : slots + 6 ≤ R.slots) (hlocks : meth.locks = false)
    (hx : ∀ t : State, s.vm.Alike t.vm → H.size ≤ t.heap.size → (∀ q : Nat, q < H.size → t.heap[q]? = H[q]?) → XC cls s t)
    (hf : ∀ z ∈ locs, free z.base) (hc : cells + 1 ≤ mc) (hs : slots + 6 ≤ ms) :
    W p l e R s m args below meth c H locs cells slots (vx_MQ below Qc XC args s mc ms free) (F0 m pc ls rest) := by
  intro T hT X
  have htr : e.platform.stackTraces = false := (show e.platform.stackTraces = l.stackTraces by rw [X.admits.platform]).trans hl
  have Y := vx_rebase X (R' := { frames := R.frames, locals := R.locals, cells := 1, slots := 6 }) (Nat.le_refl _) (Nat.le_refl _) hRcells hRslots
  obtain ⟨s', hA⟩ : ∃ z, z = (T.setVm s.vm).setFrames (.invoking m args :: below) := ⟨_, rfl⟩
  rw [← hA] at Y
  have hvm : s'.vm = s.vm := by rw [hA]; rfl
  have hhp : s'.heap = H := by rw [hA]; exact hT
  have hW0 : s.WarmedH s'.vm := by rw [hvm]; exact State.WarmedH.refl s
  have hat' : ∀ w ∈ vx_at0 own ic cls names, w.before args s' = true := fun w hw => vx_ot_at hW0 hvm.symm (hgood w (List.mem_cons_of_mem _ (List.mem_cons_of_mem _ hw))) (hat w hw)
  have hk' : (Cond.classLink own ik cls).before args s' = true := vx_ot_at hW0 hvm.symm (hgood _ List.mem_cons_self) hk
  have hini' : (Cond.initialized cls).before args s' = true := vx_ot_at hW0 hvm.symm (hgood _ (List.mem_cons_of_mem _ List.mem_cons_self)) hini
  have hU' : vx_Zq Bundle.tN "UNASSIGNED_STACK" Bundle.steD A s' s'.heap := by rw [hhp]; exact vx_Zq.moved hW0.alike (hU.kept hS.2.1)
  have hN' : vx_Zq Bundle.tN "SUPPRESSED_SENTINEL" Bundle.listD A s' s'.heap := by rw [hhp]; exact vx_Zq.moved hW0.alike (hN.kept hS.2.1)
  have h : ∀ w ∈ Bundle.ownAtoms0 own ic cls names, w.before args s' = true := vx_own hat' (vx_isRefq hU'.1) (vx_isRefq hN'.1) hU'.2.word hN'.2.word
  have hown' : s'.vm.findClass own = some m.cls := by rw [hvm]; exact hown
  have hins : (Cond.instantiable cls 6).before args s' = true := h _ (by simp [Bundle.ownAtoms0])
  obtain ⟨vm₁, cX, kX, hfX, hkX, -, -, X₁, st1⟩ := Y.newCold hexec (own := own) (C := cls) (index := ik) (n := 6) hown' hk' hins hini'
    (g := F0 m pc ls rest) rfl (by rw [hb]; exact d0) (Nat.le_refl _) (Nat.le_refl _)
  generalize hT1 : (T.setVm vm₁).pushCell { cls := cX, slots := kX.instanceTypes.map defaultValue, vm := .none } = T1 at X₁ st1
  have hcat : (Value.ref T.heap.size).category = 1 := rfl
  have hcellA : T1.heap[T.heap.size]? = some (freshCell cX kX) := by rw [← hT1]; exact State.heap_pushCell_size _ _
  have d3' : decode c.code (pc + 3) = .ok (.dup, 1) := by rw [hb]; exact d3
  obtain ⟨U, hsteps, hrun, hend, hW, hsame, ce, hce, hO⟩ := X₁.ctorThrow0 hexec htr (own := own) (cls := cls) (names := names) (ic := ic) hown' hcls hnames h (fun x hx => nomatch hx) hfX hkX hcellA (by rw [hhp, hT]; exact Nat.le_refl _)
    (g := { method := m, pc := pc + 4, locals := ls, stack := .ref T.heap.size :: .ref T.heap.size :: rest, locked := none }) rfl hsize rfl rfl (rest := rest) rfl
    (by rw [hb]; exact d4) (by rw [hb]; exact d7) hout hRframes (by simp only [List.map_cons, List.sum_cons, hcat]; omega) hlocks
  obtain ⟨f1, f2⟩ := vx_frame hsame
  rw [hhp] at f1 f2
  have hWs : s.WarmedH U.vm := State.WarmedH.trans hW0 hW
  have hcl : s.vm.findClass cls = some ce.cls := by
    have h9 := hO.cls
    rw [hvm] at h9
    exact h9
  have hall : s.sameButNew ({ U with vm := s.vm } : State) locs mc ms := by
    subst hA
    obtain ⟨e1, e2⟩ := hsame
    rw [State.setFrames_setFrames] at e1
    have h2 : (T.setVm s.vm).sameButNew ({ U with vm := s.vm } : State) [] (0 + 1) (0 + 6) := ⟨e1, e2⟩
    have h3 := X.same.trans h2
    rw [List.append_nil] at h3
    exact h3.mono hc hs
  refine ⟨U, ?_, .threw T.heap.size, hrun, hend, Or.inr ⟨T.heap.size, rfl, cls, ce, locs, hx U hWs.alike f1 (fun q hq => f2 q hq (fun z hz => nomatch hz)), hce, hO.vm, hcl, hWs, hall, hf⟩⟩
  refine st1 _ ?_
  show Steps p.tables e below (T1.setTop { method := m, pc := pc + 3, locals := ls, stack := .ref T.heap.size :: rest, locked := none }) _
  jvm_step X₁.here [X₁.here.top, hexec, d3', Value.category]
  exact hsteps
/-- 'throw new E("text")': new; dup; ldc; invokespecial; athrow -/
theorem vx_throwS {cc : ByteArray} {pc : Nat} (hexec : p.tables.exec = Jvm.exec) (hb : c.code = cc) (hl : l.stackTraces = false) {own cls text : String} {names : List String} {ik is ic mc ms sa : Nat} {A : Nat → Prop}
    (hown : s.vm.findClass own = some m.cls) (hcls : Bundle.fit cls = true) (hnames : ∀ n ∈ names, Bundle.fit n = true)
    (hk : (Cond.classLink own ik cls).before args s = true) (hini : (Cond.initialized cls).before args s = true) (hstr : vk_R own is text sa s) (hat : ∀ w ∈ vx_atS own ic cls names, w.before args s = true)
    (hgood : ∀ w ∈ Cond.classLink own ik cls :: Cond.initialized cls :: vx_atS own ic cls names, vx_ot w = true)
    (hU : vx_Zq Bundle.tN "UNASSIGNED_STACK" Bundle.steD A s s.heap) (hN : vx_Zq Bundle.tN "SUPPRESSED_SENTINEL" Bundle.listD A s s.heap) (hS : va_S A s.heap H locs) (hsize : ls.size = c.maxLocals)
    (d0 : decode cc pc = .ok (.new ik, 3)) (d3 : decode cc (pc + 3) = .ok (.dup, 1)) (d4 : decode cc (pc + 4) = .ok (.ldc is, 2)) (d6 : decode cc (pc + 6) = .ok (.invokespecial ic, 3)) (d9 : decode cc (pc + 9) = .ok (.athrow, 1))
    (hout : ∀ x ∈ c.exceptionTable.toList, covers x (pc + 9) = false)
    (hRframes : names.length + 3 < R.frames) (hRlocals : (rest.map fun v => v.category).sum + (13 * (names.length + 1) + 43) ≤ R.locals) (hRcells : cells + 1 ≤ R.cells) (hRslots : slots + 6 ≤ R.slots) (hlocks : meth.locks = false)
    (hx : ∀ t : State, s.vm.Alike t.vm → H.size ≤ t.heap.size → (∀ q : Nat, q < H.size → t.heap[q]? = H[q]?) → XC cls s t)
    (hf : ∀ z ∈ locs, free z.base) (hc : cells + 1 ≤ mc) (hs : slots + 6 ≤ ms) :
    W p l e R s m args below meth c H locs cells slots (vx_MQ below Qc XC args s mc ms free) (F0 m pc ls rest) := by
  intro T hT X
  have htr : e.platform.stackTraces = false := (show e.platform.stackTraces = l.stackTraces by rw [X.admits.platform]).trans hl
  have Y := vx_rebase X (R' := { frames := R.frames, locals := R.locals, cells := 1, slots := 6 }) (Nat.le_refl _) (Nat.le_refl _) hRcells hRslots
  obtain ⟨s', hA⟩ : ∃ z, z = (T.setVm s.vm).setFrames (.invoking m args :: below) := ⟨_, rfl⟩
  rw [← hA] at Y
  have hvm : s'.vm = s.vm := by rw [hA]; rfl
  have hhp : s'.heap = H := by rw [hA]; exact hT
  have hW0 : s.WarmedH s'.vm := by rw [hvm]; exact State.WarmedH.refl s
  have hat' : ∀ w ∈ vx_atS own ic cls names, w.before args s' = true := fun w hw => vx_ot_at hW0 hvm.symm (hgood w (List.mem_cons_of_mem _ (List.mem_cons_of_mem _ hw))) (hat w hw)
  have hk' : (Cond.classLink own ik cls).before args s' = true := vx_ot_at hW0 hvm.symm (hgood _ List.mem_cons_self) hk
  have hini' : (Cond.initialized cls).before args s' = true := vx_ot_at hW0 hvm.symm (hgood _ (List.mem_cons_of_mem _ List.mem_cons_self)) hini
  have hU' : vx_Zq Bundle.tN "UNASSIGNED_STACK" Bundle.steD A s' s'.heap := by rw [hhp]; exact vx_Zq.moved hW0.alike (hU.kept hS.2.1)
  have hN' : vx_Zq Bundle.tN "SUPPRESSED_SENTINEL" Bundle.listD A s' s'.heap := by rw [hhp]; exact vx_Zq.moved hW0.alike (hN.kept hS.2.1)
  have h : ∀ w ∈ Bundle.ownAtoms own ic cls names, w.before args s' = true := vx_own hat' (vx_isRefq hU'.1) (vx_isRefq hN'.1) hU'.2.word hN'.2.word
  have hown' : s'.vm.findClass own = some m.cls := by rw [hvm]; exact hown
  have hins : (Cond.instantiable cls 6).before args s' = true := h _ (by simp [Bundle.ownAtoms])
  obtain ⟨vm₁, cX, kX, hfX, hkX, -, -, X₁, st1⟩ := Y.newCold hexec (own := own) (C := cls) (index := ik) (n := 6) hown' hk' hins hini'
    (g := F0 m pc ls rest) rfl (by rw [hb]; exact d0) (Nat.le_refl _) (Nat.le_refl _)
  generalize hT1 : (T.setVm vm₁).pushCell { cls := cX, slots := kX.instanceTypes.map defaultValue, vm := .none } = T1 at X₁ st1
  have hcat : (Value.ref T.heap.size).category = 1 := rfl
  have hcellA : T1.heap[T.heap.size]? = some (freshCell cX kX) := by rw [← hT1]; exact State.heap_pushCell_size _ _
  have d3' : decode c.code (pc + 3) = .ok (.dup, 1) := by rw [hb]; exact d3
  have d4' : decode c.code (pc + 4) = .ok (.ldc is, 2) := by rw [hb]; exact d4
  have hstr' : vk_R own is text sa s' := vk_R.warm hW0 hstr
  obtain ⟨U, hsteps, hrun, hend, hW, hsame, ce, hce, hO⟩ := X₁.ctorThrowS hexec htr (own := own) (cls := cls) (names := names) (ic := ic) hown' hcls hnames h (fun x hx => nomatch hx) hfX hkX hcellA (by rw [hhp, hT]; exact Nat.le_refl _) (msg := .ref sa) rfl
    (g := { method := m, pc := pc + 6, locals := ls, stack := .ref sa :: .ref T.heap.size :: .ref T.heap.size :: rest, locked := none }) rfl hsize rfl rfl (rest := rest) rfl
    (by rw [hb]; exact d6) (by rw [hb]; exact d9) hout hRframes (by simp only [List.map_cons, List.sum_cons, hcat]; omega) hlocks
  obtain ⟨f1, f2⟩ := vx_frame hsame
  rw [hhp] at f1 f2
  have hWs : s.WarmedH U.vm := State.WarmedH.trans hW0 hW
  have hcl : s.vm.findClass cls = some ce.cls := by
    have h9 := hO.cls
    rw [hvm] at h9
    exact h9
  have hall : s.sameButNew ({ U with vm := s.vm } : State) locs mc ms := by
    subst hA
    obtain ⟨e1, e2⟩ := hsame
    rw [State.setFrames_setFrames] at e1
    have h2 : (T.setVm s.vm).sameButNew ({ U with vm := s.vm } : State) [] (0 + 1) (0 + 6) := ⟨e1, e2⟩
    have h3 := X.same.trans h2
    rw [List.append_nil] at h3
    exact h3.mono hc hs
  refine ⟨U, ?_, .threw T.heap.size, hrun, hend, Or.inr ⟨T.heap.size, rfl, cls, ce, locs, hx U hWs.alike f1 (fun q hq => f2 q hq (fun z hz => nomatch hz)), hce, hO.vm, hcl, hWs, hall, hf⟩⟩
  refine st1 _ ?_
  show Steps p.tables e below (T1.setTop { method := m, pc := pc + 3, locals := ls, stack := .ref T.heap.size :: rest, locked := none }) _
  jvm_step X₁.here [X₁.here.top, hexec, d3', Value.category]
  exact X₁.ldcString hexec (own := own) (text := text) (index := is) (a := sa) hown' hstr'.1 hstr'.2
    (g := { method := m, pc := pc + 4, locals := ls, stack := .ref T.heap.size :: .ref T.heap.size :: rest, locked := none }) rfl d4' _ hsteps
/-- 'throw new E("text")', the text by a wide index -/
theorem vx_throwSW {cc : ByteArray} {pc : Nat} (hexec : p.tables.exec = Jvm.exec) (hb : c.code = cc) (hl : l.stackTraces = false) {own cls text : String} {names : List String} {ik is ic mc ms sa : Nat} {A : Nat → Prop}
    (hown : s.vm.findClass own = some m.cls) (hcls : Bundle.fit cls = true) (hnames : ∀ n ∈ names, Bundle.fit n = true)
    (hk : (Cond.classLink own ik cls).before args s = true) (hini : (Cond.initialized cls).before args s = true) (hstr : vk_R own is text sa s) (hat : ∀ w ∈ vx_atS own ic cls names, w.before args s = true)
    (hgood : ∀ w ∈ Cond.classLink own ik cls :: Cond.initialized cls :: vx_atS own ic cls names, vx_ot w = true)
    (hU : vx_Zq Bundle.tN "UNASSIGNED_STACK" Bundle.steD A s s.heap) (hN : vx_Zq Bundle.tN "SUPPRESSED_SENTINEL" Bundle.listD A s s.heap) (hS : va_S A s.heap H locs) (hsize : ls.size = c.maxLocals)
    (d0 : decode cc pc = .ok (.new ik, 3)) (d3 : decode cc (pc + 3) = .ok (.dup, 1)) (d4 : decode cc (pc + 4) = .ok (.ldc_w is, 3)) (d7 : decode cc (pc + 7) = .ok (.invokespecial ic, 3)) (d10 : decode cc (pc + 10) = .ok (.athrow, 1))
    (hout : ∀ x ∈ c.exceptionTable.toList, covers x (pc + 10) = false)
    (hRframes : names.length + 3 < R.frames) (hRlocals : (rest.map fun v => v.category).sum + (13 * (names.length + 1) + 43) ≤ R.locals) (hRcells : cells + 1 ≤ R.cells) (hRslots : slots + 6 ≤ R.slots) (hlocks : meth.locks = false)
    (hx : ∀ t : State, s.vm.Alike t.vm → H.size ≤ t.heap.size → (∀ q : Nat, q < H.size → t.heap[q]? = H[q]?) → XC cls s t)
    (hf : ∀ z ∈ locs, free z.base) (hc : cells + 1 ≤ mc) (hs : slots + 6 ≤ ms) :
    W p l e R s m args below meth c H locs cells slots (vx_MQ below Qc XC args s mc ms free) (F0 m pc ls rest) := by
  intro T hT X
  have htr : e.platform.stackTraces = false := (show e.platform.stackTraces = l.stackTraces by rw [X.admits.platform]).trans hl
  have Y := vx_rebase X (R' := { frames := R.frames, locals := R.locals, cells := 1, slots := 6 }) (Nat.le_refl _) (Nat.le_refl _) hRcells hRslots
  obtain ⟨s', hA⟩ : ∃ z, z = (T.setVm s.vm).setFrames (.invoking m args :: below) := ⟨_, rfl⟩
  rw [← hA] at Y
  have hvm : s'.vm = s.vm := by rw [hA]; rfl
  have hhp : s'.heap = H := by rw [hA]; exact hT
  have hW0 : s.WarmedH s'.vm := by rw [hvm]; exact State.WarmedH.refl s
  have hat' : ∀ w ∈ vx_atS own ic cls names, w.before args s' = true := fun w hw => vx_ot_at hW0 hvm.symm (hgood w (List.mem_cons_of_mem _ (List.mem_cons_of_mem _ hw))) (hat w hw)
  have hk' : (Cond.classLink own ik cls).before args s' = true := vx_ot_at hW0 hvm.symm (hgood _ List.mem_cons_self) hk
  have hini' : (Cond.initialized cls).before args s' = true := vx_ot_at hW0 hvm.symm (hgood _ (List.mem_cons_of_mem _ List.mem_cons_self)) hini
  have hU' : vx_Zq Bundle.tN "UNASSIGNED_STACK" Bundle.steD A s' s'.heap := by rw [hhp]; exact vx_Zq.moved hW0.alike (hU.kept hS.2.1)
  have hN' : vx_Zq Bundle.tN "SUPPRESSED_SENTINEL" Bundle.listD A s' s'.heap := by rw [hhp]; exact vx_Zq.moved hW0.alike (hN.kept hS.2.1)
  have h : ∀ w ∈ Bundle.ownAtoms own ic cls names, w.before args s' = true := vx_own hat' (vx_isRefq hU'.1) (vx_isRefq hN'.1) hU'.2.word hN'.2.word
  have hown' : s'.vm.findClass own = some m.cls := by rw [hvm]; exact hown
  have hins : (Cond.instantiable cls 6).before args s' = true := h _ (by simp [Bundle.ownAtoms])
  obtain ⟨vm₁, cX, kX, hfX, hkX, -, -, X₁, st1⟩ := Y.newCold hexec (own := own) (C := cls) (index := ik) (n := 6) hown' hk' hins hini'
    (g := F0 m pc ls rest) rfl (by rw [hb]; exact d0) (Nat.le_refl _) (Nat.le_refl _)
  generalize hT1 : (T.setVm vm₁).pushCell { cls := cX, slots := kX.instanceTypes.map defaultValue, vm := .none } = T1 at X₁ st1
  have hcat : (Value.ref T.heap.size).category = 1 := rfl
  have hcellA : T1.heap[T.heap.size]? = some (freshCell cX kX) := by rw [← hT1]; exact State.heap_pushCell_size _ _
  have d3' : decode c.code (pc + 3) = .ok (.dup, 1) := by rw [hb]; exact d3
  have d4' : decode c.code (pc + 4) = .ok (.ldc_w is, 3) := by rw [hb]; exact d4
  have hstr' : vk_R own is text sa s' := vk_R.warm hW0 hstr
  obtain ⟨U, hsteps, hrun, hend, hW, hsame, ce, hce, hO⟩ := X₁.ctorThrowS hexec htr (own := own) (cls := cls) (names := names) (ic := ic) hown' hcls hnames h (fun x hx => nomatch hx) hfX hkX hcellA (by rw [hhp, hT]; exact Nat.le_refl _) (msg := .ref sa) rfl
    (g := { method := m, pc := pc + 7, locals := ls, stack := .ref sa :: .ref T.heap.size :: .ref T.heap.size :: rest, locked := none }) rfl hsize rfl rfl (rest := rest) rfl
    (by rw [hb]; exact d7) (by rw [hb]; exact d10) hout hRframes (by simp only [List.map_cons, List.sum_cons, hcat]; omega) hlocks
  obtain ⟨f1, f2⟩ := vx_frame hsame
  rw [hhp] at f1 f2
  have hWs : s.WarmedH U.vm := State.WarmedH.trans hW0 hW
  have hcl : s.vm.findClass cls = some ce.cls := by
    have h9 := hO.cls
    rw [hvm] at h9
    exact h9
  have hall : s.sameButNew ({ U with vm := s.vm } : State) locs mc ms := by
    subst hA
    obtain ⟨e1, e2⟩ := hsame
    rw [State.setFrames_setFrames] at e1
    have h2 : (T.setVm s.vm).sameButNew ({ U with vm := s.vm } : State) [] (0 + 1) (0 + 6) := ⟨e1, e2⟩
    have h3 := X.same.trans h2
    rw [List.append_nil] at h3
    exact h3.mono hc hs
  refine ⟨U, ?_, .threw T.heap.size, hrun, hend, Or.inr ⟨T.heap.size, rfl, cls, ce, locs, hx U hWs.alike f1 (fun q hq => f2 q hq (fun z hz => nomatch hz)), hce, hO.vm, hcl, hWs, hall, hf⟩⟩
  refine st1 _ ?_
  show Steps p.tables e below (T1.setTop { method := m, pc := pc + 3, locals := ls, stack := .ref T.heap.size :: rest, locked := none }) _
  jvm_step X₁.here [X₁.here.top, hexec, d3', Value.category]
  exact X₁.ldcStringW hexec (own := own) (text := text) (index := is) (a := sa) hown' hstr'.1 hstr'.2
    (g := { method := m, pc := pc + 4, locals := ls, stack := .ref T.heap.size :: .ref T.heap.size :: rest, locked := none }) rfl d4' _ hsteps
end Ends
section Bodies
variable {l : Launch}
theorem vx_ofW {y : MethodName} {ws ws' : List Cond} {rm : Room} {Pc : Array Value → State → Prop} {Qc : Array Value → State → Outcome → State → Prop} {XC : String → State → State → Prop} {mc ms : Nat} {free : Addr → Prop} {cc : ByteArray} {maxL : Nat} {ret : Option FieldType}
    (hy : plainName y.cls = true) (hw : ws = Cond.code y cc maxL ret :: ws')
    (body : ∀ p e s m args below meth c s₁, BodyLoose p l y (headSpec ws rm) cc maxL ret e s m args below meth c s₁ → c.maxLocals = maxL → (∀ x ∈ c.exceptionTable.toList, False) → Pc args s →
      W p l e (headSpec ws rm).room s m args below meth c s.heap [] 0 0 (vx_MQ below Qc XC args s mc ms free) (entryFrame m args maxL)) : vx_Met l y ws rm Pc Qc XC mc ms free := by
  refine MetFree.of_bodyS (code := cc) (maxLocals := maxL) (ret := ret) hy ?_ ?_
  · intro args s m h hn
    obtain ⟨meth, c, h1, h2, h3, h4, h5, h6, -, -⟩ := Cond.code_spec hn (atoms_spec (ws := ws) h _ (by rw [hw]; exact List.mem_cons_self))
    exact ⟨meth, c, h1, h2, h3, h4, h5, h6⟩
  · intro p e s m args below meth c s₁ B hml hP _
    have hh0 : s₁.heap = s.heap := by rw [B.state]; rfl
    have ht : ∀ x ∈ c.exceptionTable.toList, False := by
      obtain ⟨meth9, c9, h1, h2, -, -, -, -, h7, -⟩ := Cond.code_spec B.named (atoms_spec (ws := ws) B.pre _ (by rw [hw]; exact List.mem_cons_self))
      cases Option.some.inj (h1.symm.trans B.method)
      cases Option.some.inj (h2.symm.trans (Stand.of_body B).code)
      intro x hx
      rw [Array.isEmpty_iff.mp h7] at hx
      cases hx
    obtain ⟨t, a1, o, b1, b2, b3⟩ := body p e s m args below meth c s₁ B hml ht hP s₁ hh0 (Stand.of_body B)
    exact ⟨t, o, a1, b1, b2, b3⟩
/-- the table of a body with handlers -/
theorem vx_table {p : Program} {x y : MethodName} {S : Spec} {cc bytes : ByteArray} {maxL maxL' : Nat} {ret ret' : Option FieldType} {e : Env} {s s₁ : State} {m : MethodId} {args : Array Value} {below : List Frame} {meth : Method} {c : Code} {hh : List (Nat × Nat × Nat × Nat)}
    (B : BodyLoose p l y S cc maxL ret e s m args below meth c s₁) (h : (Cond.codeWith y bytes maxL' ret' hh).before args s = true) : c.exceptionTable.toList = tableOf hh := by
  obtain ⟨m9, meth9, c9, hn9, h1, h2, -, -, h6, -⟩ := Cond.codeWith_spec h
  cases Option.some.inj (hn9.symm.trans B.named)
  cases Option.some.inj (h1.symm.trans B.method)
  cases Option.some.inj (h2.symm.trans (Stand.of_body B).code)
  rw [← h6, table_eq]
end Bodies
end VXA
/-! ===== END ===== -/
/-! ===== BEGIN a static call of a method with an exception table ===== -/
section VXS
variable {p : Program} {l : Launch} {e : Env} {R : Room} {s : State} {m : MethodId} {args : Array Value} {below : List Frame} {meth : Method} {c : Code} {T : State} {H : Heap} {locs : List Loc} {cells slots : Nat}
abbrev vx_CSW (R : Room) (s : State) (args : Array Value) (own : String) (index : Nat) (y : MethodName) (bytes : ByteArray) (maxL : Nat) (ret : Option FieldType) (hh : List (Nat × Nat × Nat × Nat)) (ws : List Cond) (rm : Room) (mc ms n : Nat) : Prop :=
  (rm.cells = mc ∧ rm.slots = ms ∧ rm.frames + 1 ≤ R.frames ∧ 8 + (maxL + 11) + rm.locals ≤ R.locals ∧ (∀ w ∈ ws, ∀ (a' : Array Value) (U : State), s.WarmedH U.vm → w.before a' U = true) ∧ Cond.codeWith y bytes maxL ret hh ∈ ws) ∧
  (Cond.codeWith y bytes maxL ret hh).before args s = true ∧ (Cond.initialized y.cls).before args s = true ∧ (y.cls ≠ "java/lang/invoke/MethodHandle" ∧ y.cls ≠ "java/lang/invoke/VarHandle") ∧
  (∀ sig, parseMethodDescriptor y.desc = some sig → n = sig.parameters.length) ∧ (Cond.methodLink own index y).before args s = true ∧ (Cond.static y).before args s = true
theorem vx_cwSW {own : String} {index maxL mc ms : Nat} {y : MethodName} {bytes : ByteArray} {ret : Option FieldType} {hh : List (Nat × Nat × Nat × Nat)} {Ts ws ws' : List Cond} {rm : Room} (n : Nat) (ht : ∀ w ∈ Ts, w.before args s = true) (hT : GoodIn Ts (va_wsS own index y ws)) (hw : ws = Cond.codeWith y bytes maxL ret hh :: ws') (hrc : rm.cells = mc) (hrs : rm.slots = ms)
    (hd : y.cls ≠ "java/lang/invoke/MethodHandle" ∧ y.cls ≠ "java/lang/invoke/VarHandle" ∧ (parseMethodDescriptor y.desc).map (fun d => d.parameters.length) = some n) (hR : rm.frames + 1 ≤ R.frames ∧ 8 + (maxL + 11) + rm.locals ≤ R.locals) :
    vx_CSW R s args own index y bytes maxL ret hh ws rm mc ms n := by
  have ok : ∀ w ∈ va_wsS own index y ws, w.before args s = true := fun w h => ht w (hT w h).1
  have hG : GoodIn Ts ws := fun w h => hT w (by unfold va_wsS; exact List.mem_append_right _ h)
  have hc : Cond.codeWith y bytes maxL ret hh ∈ ws := by rw [hw]; exact List.mem_cons_self
  refine ⟨⟨hrc, hrs, hR.1, hR.2, pay_in ht hG, hc⟩, ht _ (hG _ hc).1, ok _ (by simp [va_wsS]), ⟨hd.1, hd.2.1⟩, fun sig h => ?_, ok _ (by simp [va_wsS]), ok _ (by simp [va_wsS])⟩
  have h2 := hd.2.2
  rw [h] at h2
  exact (Option.some.inj h2).symm
theorem vx_callSW (X : Stand p l e R s m args below meth c T locs cells slots) (hexec : p.tables.exec = Jvm.exec) {own : String} {index : Nat} {y : MethodName} {bytes : ByteArray} {maxL : Nat} {ret : Option FieldType} {hh : List (Nat × Nat × Nat × Nat)}
    (hown : s.vm.findClass own = some m.cls) (hlink : (Cond.methodLink own index y).before args s = true) (hstat : (Cond.static y).before args s = true) (hinit : (Cond.initialized y.cls).before args s = true)
    (hcode : (Cond.codeWith y bytes maxL ret hh).before args s = true) (hy : y.cls ≠ "java/lang/invoke/MethodHandle" ∧ y.cls ≠ "java/lang/invoke/VarHandle")
    {W9 : Nat} {Pre : Pt → Array Value → Prop} {Post : Pt → Array Value → Option Value → Pt → Prop} (hK : Back l R p e below s args y 3 W9 Pre Post)
    {g : JFrame} (hg : g.method = m) (hsize : g.locals.size = c.maxLocals) {argsL rest : List Value} (hlen : ∀ sig, parseMethodDescriptor y.desc = some sig → argsL.length = sig.parameters.length)
    (hstack : g.stack = argsL.reverse ++ rest) (hW : 2 * g.monitorRoom + (rest.map fun v => v.category).sum ≤ W9) (hdg : decode c.code g.pc = .ok (.invokestatic index, 3))
    (hpre : ∀ vm₁, s.WarmedH vm₁ → Pre ⟨T.setVm vm₁, locs, cells, slots⟩ argsL.toArray) :
    ∃ (v : Option Value) (vm₁ : Vm) (B : Pt), s.WarmedH vm₁ ∧ Stand p l e R s m args below meth c B.U B.locs B.cells B.slots ∧ Post ⟨T.setVm vm₁, locs, cells, slots⟩ argsL.toArray v B ∧
      ∀ target, Steps p.tables e below (B.U.setTop { g with pc := g.pc + 3, stack := v.toList ++ rest }) target → Steps p.tables e below (T.setTop g) target := by
  obtain ⟨mk, methM, cM, hnamed, hmethM, -, -, -, -, -, -, hsigM⟩ := Cond.codeWith_spec hcode
  have hstatic : methM.isStatic = true := Cond.static_spec hnamed hmethM hstat
  obtain ⟨kP, hkP, -⟩ := className_of_methodNamed hnamed
  have hinitP : kP.init = .initialized := Cond.initialized_spec (findClass_of_methodNamed hnamed) hkP hinit
  obtain ⟨vm₁, X₁, hstep₁⟩ := X.invokestatic hexec hown hlink hnamed hmethM hstatic hkP hinitP hy (g := g) hg (argsL := argsL) (rest := rest) (hlen _ hsigM) hstack hdg
  obtain ⟨v, B, X', hpost, hsteps⟩ := hK m meth c ⟨T.setVm vm₁, locs, cells, slots⟩ { g with stack := rest } (.invokestatic index) mk argsL.toArray X₁ hg hsize hdg hW (X₁.named hnamed) (hpre vm₁ X₁.warmed)
  exact ⟨v, vm₁, B, X₁.warmed, X', hpost, fun target h => hstep₁ _ fun acts => by rw [doInvoke_state]; exact hsteps.trans h⟩
theorem vx_runSW {y : MethodName} {bytes cc : ByteArray} {maxL nL mc ms n index : Nat} {ret : Option FieldType} {hh : List (Nat × Nat × Nat × Nat)} {ws : List Cond} {rm : Room} {Pc : Array Value → State → Prop} {Qc : Array Value → State → Outcome → State → Prop} {free : Addr → Prop} {Ts : List Cond} {own : String} {As rest : List Value} {g : JFrame}
    (S : CallFix p m c cc nL s args Ts own) (hM : Met l y ws rm Pc Qc mc ms free) (cw : vx_CSW R s args own index y bytes maxL ret hh ws rm mc ms n) (hp : PreS s H Pc As)
    (hg : g.method = m) (hn : As.length = n) (hsize : g.locals.size = nL) (hstack : g.stack = As.reverse ++ rest) (hW : 2 * g.monitorRoom + (rest.map fun v => v.category).sum ≤ 8) (hdg : decode cc g.pc = .ok (.invokestatic index, 3)) (hf : cells + mc ≤ R.cells ∧ slots + ms ≤ R.slots) :
    va_Run p l e R s m args below meth c H locs cells slots mc ms g rest (Qc As.toArray) (free) := by
  obtain ⟨⟨hrc, hrs, hfr, hlo, hws, hcw⟩, hcode, hini, hy, hlen, hl, hstt⟩ := cw
  have hK : Back l R p e below s args y 3 8 (PreOf R mc ms Pc) (PostOf Qc mc ms free) := va_backW (hh := hh) (bytes := bytes) (maxL := maxL) (ret := ret) hM hp.1 hrc hrs hfr hlo hws hcw (fun a' U hW => word_at hW (Or.inl (by first | rfl | simp [Cond.onTables, Cond.keeps, Cond.steady])) hini)
  obtain ⟨hx, hb, hml, ho, -⟩ := S
  intro T hT X
  obtain ⟨v, vm₁, ⟨U', l2, c2, s2⟩, hW₁, X', ⟨g', mk, t, L, e1, e2, hq, h1, hL, h2, h3⟩, st⟩ := vx_callSW X hx (hh := hh) (bytes := bytes) (maxL := maxL) (ret := ret) ho hl hstt hini hcode hy hK hg (hsize.trans hml.symm) (argsL := As) (rest := rest) (fun sig h => hn.trans (hlen sig h)) hstack hW (by rw [hb]; exact hdg)
    (fun vm₁ hW₁ => ⟨hf.1, hf.2, hp.2 (T.setVm vm₁) hT hW₁⟩)
  dsimp only [Pt.U, Pt.locs, Pt.cells, Pt.slots] at X' e1 e2 h1 h2 h3 st
  subst h1; subst h2; subst h3
  exact ⟨v, (T.setVm vm₁).calling g' mk As.toArray, t, U', L, hT, X', hL, e1, e2, hq, st⟩
/-- not caught here, past rows that name other classes: it goes on to the caller -/
theorem vx_outP {p : Program} {l : Launch} {e : Env} {R : Room} {s : State} {m : MethodId} {args : Array Value} {below : List Frame} {meth : Method} {c : Code} {H : Heap} {locs : List Loc} {cells slots : Nat} {free : Addr → Prop} {ls : Array Slot} {rest : List Value} {Qc : Array Value → State → Outcome → State → Prop} {XC : String → State → State → Prop}
    {pc : Nat} {own E : String} {ce : Cell} {q : Addr} {mc ms : Nat} (hown : s.vm.findClass own = some m.cls) (hlocks : meth.locks = false)
    (hpass : ∀ z ∈ c.exceptionTable.toList, covers z pc = false ∨ (z.catchType ≠ 0 ∧ ∃ nm : String, (Cond.classLink own z.catchType nm).before args s = true ∧ va_Nc E nm s)) (hcell : H[q]? = some ce) (hv : ce.vm = .none) (hcl : s.vm.findClass E = some ce.cls)
    (hx : ∀ t : State, t.heap = H → s.vm.Alike t.vm → XC E s t) (hf : ∀ z ∈ locs, free z.base) (hc : cells ≤ mc) (hs : slots ≤ ms) :
    vx_W p l e R s m args below meth c H locs cells slots (vx_MQ below Qc XC args s mc ms free) (F0 m pc ls rest) q := by
  intro T hT X
  have hpl : e.platform.magicAccessors = ({} : Platform).magicAccessors := by rw [X.admits.platform]
  obtain ⟨vm', hW', X', st⟩ := X.outThrough hlocks q (g := F0 m pc ls rest) rfl rfl rfl (cell := ce) (by rw [hT]; exact hcell) (by rw [hv]; rfl)
    (by obtain ⟨k9, h9, -⟩ := Vm.findClass_spec hcl; exact ⟨k9, h9⟩) (fun z hz => by
      rcases hpass z hz with h | ⟨hz0, nm, hl1, hn1⟩
      · exact Or.inl h
      · obtain ⟨c6, hc6, hcl6⟩ := Cond.classLink_spec hown hl1 e.platform hpl
        obtain ⟨a8, b8, h1, h2, h3⟩ := hn1
        cases Option.some.inj (h1.symm.trans hcl)
        cases Option.some.inj (h2.symm.trans hc6)
        exact Or.inr ⟨hz0, _, hcl6, h3⟩)
  obtain ⟨g₀, hfr⟩ := X'.frames_eq
  have hcell9 : ((T.setVm vm').setFrames (.throwing q :: below)).heap[q]? = some ce := by
    show T.heap[q]? = some ce
    rw [hT]; exact hcell
  have hend : Ended ((T.setVm vm').setFrames (.throwing q :: below)) below (.threw q) := State.frames_setFrames _ (State.cur_lt_of_frames hfr)
  refine ⟨(T.setVm vm').setFrames (.throwing q :: below), ?_, .threw q, X'.here.running, hend, Or.inr ⟨q, rfl, E, ce, locs, hx _ hT (X'.ends _).1.alike, hcell9, hv, hcl, (X'.ends _).1, (X'.ends _).2.mono hc hs, hf⟩⟩
  rw [X.pushThrowing_eq]
  exact st
/-- a thing of a world lies in the heap -/
theorem vx_lt {D : va_G} {cl : List vw_C} {ws : va_W} {H1 : Heap} (h : va_P D cl ws H1) {k : Nat} {q : Nat × va_E} (hk : ws[k]? = some q) : q.1 < H1.size := (h k q hk).lt
end VXS
/-! ===== END ===== -/
/-! ===== BEGIN methods with a table of their own: called by a name, returning or throwing ===== -/
section VXH
/-! vx_backW, vx_callVX, vx_callSX, vx_callVW, vx_runVW, vx_runVX, vx_runSX, vx_ofWH follow the same proofs as their sisters above (Free/Laws.lean, Shelf42/LK1.lean); vx_outP calls Shelf42/NT130.lean (outThrough). -/
section
variable {l : Launch} {R : Room} {p : Program} {e : Env} {below : List Frame} {s : State} {sargs : Array Value} {y : MethodName} {len W9 : Nat}
theorem vx_backW {ws : List Cond} {rm : Room} {Pc : Array Value → State → Prop} {Qc : Array Value → State → Outcome → State → Prop} {XC : String → State → State → Prop} {mc ms : Nat} {free : Addr → Prop} {bytes : ByteArray} {maxL : Nat} {ret : Option FieldType} {hh : List (Nat × Nat × Nat × Nat)}
    (hM : vx_Met l y ws rm Pc Qc XC mc ms free) (hblind : FrameBlind Pc) (hrc : rm.cells = mc) (hrs : rm.slots = ms)
    (hframes : rm.frames + 1 ≤ R.frames) (hlocals : W9 + (maxL + 11) + rm.locals ≤ R.locals)
    (hws : ∀ w ∈ ws, ∀ a' U, s.WarmedH U.vm → w.before a' U = true) (hcode : Cond.codeWith y bytes maxL ret hh ∈ ws) (hinit : ∀ a' U, s.WarmedH U.vm → (Cond.initialized y.cls).before a' U = true) :
    vx_Back l R p e below s sargs y len W9 (PreOf R mc ms Pc) (PostOf Qc mc ms free) (vx_Post XC mc ms free) := by
  intro m meth c A g ig mk a X hg hsize hdg hW hn hp
  have h1 : (headSpec ws rm).pre.before a A.U = true := atoms_intro fun w hw => hws w hw _ _ X.warmed
  have h2 : (Cond.codeWith y bytes maxL ret hh).before a A.U = true := hws _ hcode _ _ X.warmed
  have h3 : (Cond.initialized y.cls).before a A.U = true := hinit _ _ X.warmed
  have h4 : A.cells + (headSpec ws rm).room.cells ≤ R.cells := by rw [show (headSpec ws rm).room.cells = mc from hrc]; exact hp.1
  have h5 : A.slots + (headSpec ws rm).room.slots ≤ R.slots := by rw [show (headSpec ws rm).room.slots = ms from hrs]; exact hp.2.1
  have hPc : Pc a (A.U.calling g mk a) := hblind _ _ _ _ hp.2.2
  obtain ⟨U, Ls, c0, s0⟩ := A
  dsimp only [Pt.U, Pt.locs, Pt.cells, Pt.slots] at h1 h2 h3 h4 h5 X hn hPc ⊢
  obtain ⟨m9, methY, cY, hn9, hmY, hcY, -, hlY, -⟩ := Cond.codeWith_spec h2
  cases Option.some.inj (hn9.symm.trans hn)
  obtain ⟨kY, hkY, -⟩ := className_of_methodNamed hn
  have hinitY : kY.init = .initialized := Cond.initialized_spec (findClass_of_methodNamed hn) hkY h3
  have h : At U g.method c below := by rw [hg]; exact X.here
  have hlocals9 : W9 + (maxL + 11) + (headSpec ws rm).room.locals ≤ R.locals := hlocals
  have happ : (headSpec ws rm).appliesLoose y e.platform (U.calling g mk a) = true :=
    Spec.appliesLoose_calling (g := g) h hdg hn hkY hinitY
      (X.room_calling (g := g) (R' := (headSpec ws rm).room) hsize hmY hcY hframes (by rw [hlY]; omega) h4 h5) h1
  obtain ⟨mid, hmid⟩ := h.above
  have hfr : (U.setTop g).frames = (.java g :: mid) ++ below := by rw [State.frames_setTop' g h.top, hmid]; rfl
  obtain ⟨o, s₂, hsteps, -, hend, hq⟩ := Steps.callFree hM p X.admits X.cas X.clock (acts := []) hfr happ hPc trivial
  have hq' : vx_Q Qc XC mc ms free a (U.calling g mk a) o s₂ := hq
  rw [State.frames_setTop' g h.top] at hend
  obtain ⟨g₀, hg0⟩ := Option.isSome_iff_exists.mp h.top
  obtain ⟨r, hr⟩ := State.topJava?_eq_some.mp hg0
  have hr' : (({ U with heap := s₂.heap, slotsUsed := s₂.slotsUsed } : State).setVm s₂.vm).frames = .java g₀ :: r := hr
  rcases hq' with ⟨hqc, L, hfe, hL⟩ | ⟨q, rfl, E, ce, L, hx, hce, hcv, hcl, hW₂, hsm, hL⟩
  · obtain ⟨⟨v, rfl⟩, hW₂, e2, q2, q3, q4, q5, q6⟩ := id hfe
    have e3 : s₂ = ({ (U.calling g mk a).setFrames s₂.frames with heap := s₂.heap, slotsUsed := s₂.slotsUsed } : State).setVm s₂.vm := by
      have : s₂ = ({ s₂ with vm := (U.calling g mk a).vm } : State).setVm s₂.vm := rfl
      rw [e2] at this
      exact this
    obtain ⟨c₂, i₂, len₂, hc₂, hd₂, hf₂⟩ := hend
    have hW' : U.WarmedH s₂.vm := hW₂
    have hcc : c₂ = c := by
      have h1 : s₂.code? g.method = U.code? g.method := by
        rw [State.code?_eq, State.code?_eq, hW'.alike.method?]
      exact Option.some.inj (hc₂.symm.trans (h1.trans h.code))
    subst hcc
    have hlen : len₂ = len := by rw [hdg] at hd₂; cases hd₂; rfl
    subst hlen
    have hs₂ : s₂ = (({ U with heap := s₂.heap, slotsUsed := s₂.slotsUsed } : State).setVm s₂.vm).setTop { g with pc := g.pc + len₂, stack := v.toList ++ g.stack } := by
      refine e3.trans ?_
      rw [hf₂, State.calling_eq h.top, State.setFrames_setFrames, State.setTop_of_frames _ hr', hr]
      rfl
    have hsame : U.sameButNew ({ U with heap := s₂.heap, slotsUsed := s₂.slotsUsed } : State) L mc ms := by
      refine ⟨?_, q2, q3, q4, q5, q6⟩
      obtain ⟨t, ht, -⟩ := State.frames_cons hr
      show ({ U with heap := s₂.heap, slotsUsed := s₂.slotsUsed } : State) = { U.setFrames U.frames with heap := s₂.heap, slotsUsed := s₂.slotsUsed }
      rw [State.setFrames_self ht]
    subst hg
    refine Or.inl ⟨v, ⟨(({ U with heap := s₂.heap, slotsUsed := s₂.slotsUsed } : State).setVm s₂.vm), Ls ++ L, c0 + mc, s0 + ms⟩,
      ⟨X.admits, X.cas, X.clock, X.frames, X.room, X.hears, X.method, X.code, (X.here.setHeapUsed s₂.heap s₂.slotsUsed).setVm hW'.alike, X.tail, State.WarmedH.trans X.warmed hW', X.limits, X.bytes, X.same.trans (hsame.setVm s.vm)⟩,
      ⟨g, mk, s₂, L, rfl, rfl, hqc, rfl, hL, rfl, rfl⟩, ?_⟩
    show Steps p.tables e below _ ((({ U with heap := s₂.heap, slotsUsed := s₂.slotsUsed } : State).setVm s₂.vm).setTop { g with pc := g.pc + len₂, stack := v.toList ++ g.stack })
    rw [← hs₂]
    exact hsteps
  · obtain ⟨e2, q2, q3, q4, q5, q6⟩ := id hsm
    have e3 : s₂ = ({ (U.calling g mk a).setFrames s₂.frames with heap := s₂.heap, slotsUsed := s₂.slotsUsed } : State).setVm s₂.vm := by
      have : s₂ = ({ s₂ with vm := (U.calling g mk a).vm } : State).setVm s₂.vm := rfl
      rw [e2] at this
      exact this
    have hf₂ : s₂.frames = .throwing q :: .java g :: U.frames.tail := hend
    have hW' : U.WarmedH s₂.vm := hW₂
    have hs₂ : s₂ = ((({ U with heap := s₂.heap, slotsUsed := s₂.slotsUsed } : State).setVm s₂.vm).setTop g).pushFrame (.throwing q) := by
      refine e3.trans ?_
      rw [hf₂, State.calling_eq h.top, State.setFrames_setFrames, State.pushFrame, State.frames_setTop _ hr', State.setTop_of_frames _ hr', State.setFrames_setFrames, hr]
      rfl
    have hsame : U.sameButNew ({ U with heap := s₂.heap, slotsUsed := s₂.slotsUsed } : State) L mc ms := by
      refine ⟨?_, q2, q3, q4, q5, q6⟩
      obtain ⟨t, ht, -⟩ := State.frames_cons hr
      show ({ U with heap := s₂.heap, slotsUsed := s₂.slotsUsed } : State) = { U.setFrames U.frames with heap := s₂.heap, slotsUsed := s₂.slotsUsed }
      rw [State.setFrames_self ht]
    subst hg
    refine Or.inr ⟨q, ⟨(({ U with heap := s₂.heap, slotsUsed := s₂.slotsUsed } : State).setVm s₂.vm), Ls ++ L, c0 + mc, s0 + ms⟩,
      ⟨X.admits, X.cas, X.clock, X.frames, X.room, X.hears, X.method, X.code, (X.here.setHeapUsed s₂.heap s₂.slotsUsed).setVm hW'.alike, X.tail, State.WarmedH.trans X.warmed hW', X.limits, X.bytes, X.same.trans (hsame.setVm s.vm)⟩,
      ⟨g, mk, s₂, L, E, ce, rfl, rfl, hx, hce, hcv, hcl, rfl, hL, rfl, rfl⟩, ?_⟩
    show Steps p.tables e below _ (((({ U with heap := s₂.heap, slotsUsed := s₂.slotsUsed } : State).setVm s₂.vm).setTop g).pushFrame (.throwing q))
    rw [← hs₂]
    exact hsteps
end
variable {p : Program} {l : Launch} {e : Env} {R : Room} {s : State} {m : MethodId} {args : Array Value} {below : List Frame} {meth : Method} {c : Code} {T : State} {H : Heap} {locs : List Loc} {cells slots : Nat}
theorem vx_callVX (X : Stand p l e R s m args below meth c T locs cells slots) (hexec : p.tables.exec = Jvm.exec) {own C : String} {index : Nat} {y : MethodName} {bytes : ByteArray} {maxL : Nat} {ret : Option FieldType} {hh : List (Nat × Nat × Nat × Nat)}
    (hown : s.vm.findClass own = some m.cls) (hlink : (Cond.methodLink own index y).before args s = true) (hinst : (Cond.instanceMethod y).before args s = true) (hsel : (Cond.selects C y y).before args s = true)
    (hcode : (Cond.codeWith y bytes maxL ret hh).before args s = true) (hy : y.cls ≠ "java/lang/invoke/MethodHandle" ∧ y.cls ≠ "java/lang/invoke/VarHandle")
    {W9 : Nat} {Pre : Pt → Array Value → Prop} {Post : Pt → Array Value → Option Value → Pt → Prop} {PostX : Pt → Array Value → Addr → Pt → Prop} (hK : vx_Back l R p e below s args y 3 W9 Pre Post PostX)
    {b : Addr} {cellB : Cell} (hcell : T.heap[b]? = some cellB) (hobj : cellB.vm.isStatics = false) (hcls : s.vm.findClass C = some cellB.cls)
    {g : JFrame} (hg : g.method = m) (hsize : g.locals.size = c.maxLocals) {argsL rest : List Value} (hlen : ∀ sig, parseMethodDescriptor y.desc = some sig → argsL.length = sig.parameters.length)
    (hstack : g.stack = argsL.reverse ++ .ref b :: rest) (hW : 2 * g.monitorRoom + (rest.map fun v => v.category).sum ≤ W9) (hdg : decode c.code g.pc = .ok (.invokevirtual index, 3))
    (hpre : ∀ vm₁, s.WarmedH vm₁ → Pre ⟨T.setVm vm₁, locs, cells, slots⟩ (Value.ref b :: argsL).toArray) :
    (∃ (v : Option Value) (vm₁ : Vm) (B : Pt), s.WarmedH vm₁ ∧ Stand p l e R s m args below meth c B.U B.locs B.cells B.slots ∧ Post ⟨T.setVm vm₁, locs, cells, slots⟩ (Value.ref b :: argsL).toArray v B ∧
      ∀ target, Steps p.tables e below (B.U.setTop { g with pc := g.pc + 3, stack := v.toList ++ rest }) target → Steps p.tables e below (T.setTop g) target) ∨
    (∃ (q : Addr) (vm₁ : Vm) (B : Pt), s.WarmedH vm₁ ∧ Stand p l e R s m args below meth c B.U B.locs B.cells B.slots ∧ PostX ⟨T.setVm vm₁, locs, cells, slots⟩ (Value.ref b :: argsL).toArray q B ∧
      Steps p.tables e below (T.setTop g) ((B.U.setTop { g with stack := rest }).pushFrame (.throwing q))) := by
  obtain ⟨mk, methM, hnamed, hmethM, hstM, habM⟩ := Cond.instanceMethod_spec hinst
  obtain ⟨m8, methM', cM, hn8, hmethM', -, -, -, -, -, -, hsigM⟩ := Cond.codeWith_spec hcode
  cases Option.some.inj (hn8.symm.trans hnamed)
  cases hmethM.symm.trans hmethM'
  obtain ⟨c2, r2, m2, q1, q2, q3, q4, kP, hkP, hkPi⟩ := Cond.selects_spec hsel
  cases hcls.symm.trans q1
  cases (State.methodFound?_of_named hnamed hy).symm.trans q2
  cases hnamed.symm.trans q3
  have hselP : selectMethod e.platform s.vm cellB.cls mk = .method mk := by rw [Launch.admits_selectMethod X.admits]; exact q4
  obtain ⟨vm₁, X₁, hstep₁⟩ := X.invokevirtual hexec hown hlink hnamed hmethM hstM hkP hkPi hy (a := b) (cell := cellB) hcell
    (fun z h => by rw [h] at hobj; cases hobj) hselP hmethM habM hkP hkPi (g := g) hg (argsL := argsL) (rest := rest) (hlen _ hsigM) hstack hdg
  rcases hK m meth c ⟨T.setVm vm₁, locs, cells, slots⟩ { g with stack := rest } (.invokevirtual index) mk (Value.ref b :: argsL).toArray X₁ hg hsize hdg hW (X₁.named hnamed) (hpre vm₁ X₁.warmed) with ⟨v, B, X', hpost, hsteps⟩ | ⟨q, B, X', hpost, hsteps⟩
  · exact Or.inl ⟨v, vm₁, B, X₁.warmed, X', hpost, fun target h => hstep₁ _ fun acts => by rw [doInvoke_state]; exact hsteps.trans h⟩
  · exact Or.inr ⟨q, vm₁, B, X₁.warmed, X', hpost, hstep₁ _ fun acts => by rw [doInvoke_state]; exact hsteps⟩
theorem vx_callSX (X : Stand p l e R s m args below meth c T locs cells slots) (hexec : p.tables.exec = Jvm.exec) {own : String} {index : Nat} {y : MethodName} {bytes : ByteArray} {maxL : Nat} {ret : Option FieldType} {hh : List (Nat × Nat × Nat × Nat)}
    (hown : s.vm.findClass own = some m.cls) (hlink : (Cond.methodLink own index y).before args s = true) (hstat : (Cond.static y).before args s = true) (hinit : (Cond.initialized y.cls).before args s = true)
    (hcode : (Cond.codeWith y bytes maxL ret hh).before args s = true) (hy : y.cls ≠ "java/lang/invoke/MethodHandle" ∧ y.cls ≠ "java/lang/invoke/VarHandle")
    {W9 : Nat} {Pre : Pt → Array Value → Prop} {Post : Pt → Array Value → Option Value → Pt → Prop} {PostX : Pt → Array Value → Addr → Pt → Prop} (hK : vx_Back l R p e below s args y 3 W9 Pre Post PostX)
    {g : JFrame} (hg : g.method = m) (hsize : g.locals.size = c.maxLocals) {argsL rest : List Value} (hlen : ∀ sig, parseMethodDescriptor y.desc = some sig → argsL.length = sig.parameters.length)
    (hstack : g.stack = argsL.reverse ++ rest) (hW : 2 * g.monitorRoom + (rest.map fun v => v.category).sum ≤ W9) (hdg : decode c.code g.pc = .ok (.invokestatic index, 3))
    (hpre : ∀ vm₁, s.WarmedH vm₁ → Pre ⟨T.setVm vm₁, locs, cells, slots⟩ argsL.toArray) :
    (∃ (v : Option Value) (vm₁ : Vm) (B : Pt), s.WarmedH vm₁ ∧ Stand p l e R s m args below meth c B.U B.locs B.cells B.slots ∧ Post ⟨T.setVm vm₁, locs, cells, slots⟩ argsL.toArray v B ∧
      ∀ target, Steps p.tables e below (B.U.setTop { g with pc := g.pc + 3, stack := v.toList ++ rest }) target → Steps p.tables e below (T.setTop g) target) ∨
    (∃ (q : Addr) (vm₁ : Vm) (B : Pt), s.WarmedH vm₁ ∧ Stand p l e R s m args below meth c B.U B.locs B.cells B.slots ∧ PostX ⟨T.setVm vm₁, locs, cells, slots⟩ argsL.toArray q B ∧
      Steps p.tables e below (T.setTop g) ((B.U.setTop { g with stack := rest }).pushFrame (.throwing q))) := by
  obtain ⟨mk, methM, cM, hnamed, hmethM, -, -, -, -, -, -, hsigM⟩ := Cond.codeWith_spec hcode
  have hstatic : methM.isStatic = true := Cond.static_spec hnamed hmethM hstat
  obtain ⟨kP, hkP, -⟩ := className_of_methodNamed hnamed
  have hinitP : kP.init = .initialized := Cond.initialized_spec (findClass_of_methodNamed hnamed) hkP hinit
  obtain ⟨vm₁, X₁, hstep₁⟩ := X.invokestatic hexec hown hlink hnamed hmethM hstatic hkP hinitP hy (g := g) hg (argsL := argsL) (rest := rest) (hlen _ hsigM) hstack hdg
  rcases hK m meth c ⟨T.setVm vm₁, locs, cells, slots⟩ { g with stack := rest } (.invokestatic index) mk argsL.toArray X₁ hg hsize hdg hW (X₁.named hnamed) (hpre vm₁ X₁.warmed) with ⟨v, B, X', hpost, hsteps⟩ | ⟨q, B, X', hpost, hsteps⟩
  · exact Or.inl ⟨v, vm₁, B, X₁.warmed, X', hpost, fun target h => hstep₁ _ fun acts => by rw [doInvoke_state]; exact hsteps.trans h⟩
  · exact Or.inr ⟨q, vm₁, B, X₁.warmed, X', hpost, hstep₁ _ fun acts => by rw [doInvoke_state]; exact hsteps⟩
theorem vx_callVW (X : Stand p l e R s m args below meth c T locs cells slots) (hexec : p.tables.exec = Jvm.exec) {own C : String} {index : Nat} {y : MethodName} {bytes : ByteArray} {maxL : Nat} {ret : Option FieldType} {hh : List (Nat × Nat × Nat × Nat)}
    (hown : s.vm.findClass own = some m.cls) (hlink : (Cond.methodLink own index y).before args s = true) (hinst : (Cond.instanceMethod y).before args s = true) (hsel : (Cond.selects C y y).before args s = true)
    (hcode : (Cond.codeWith y bytes maxL ret hh).before args s = true) (hy : y.cls ≠ "java/lang/invoke/MethodHandle" ∧ y.cls ≠ "java/lang/invoke/VarHandle")
    {W9 : Nat} {Pre : Pt → Array Value → Prop} {Post : Pt → Array Value → Option Value → Pt → Prop} (hK : Back l R p e below s args y 3 W9 Pre Post)
    {b : Addr} {cellB : Cell} (hcell : T.heap[b]? = some cellB) (hobj : cellB.vm.isStatics = false) (hcls : s.vm.findClass C = some cellB.cls)
    {g : JFrame} (hg : g.method = m) (hsize : g.locals.size = c.maxLocals) {argsL rest : List Value} (hlen : ∀ sig, parseMethodDescriptor y.desc = some sig → argsL.length = sig.parameters.length)
    (hstack : g.stack = argsL.reverse ++ .ref b :: rest) (hW : 2 * g.monitorRoom + (rest.map fun v => v.category).sum ≤ W9) (hdg : decode c.code g.pc = .ok (.invokevirtual index, 3))
    (hpre : ∀ vm₁, s.WarmedH vm₁ → Pre ⟨T.setVm vm₁, locs, cells, slots⟩ (Value.ref b :: argsL).toArray) :
    ∃ (v : Option Value) (vm₁ : Vm) (B : Pt), s.WarmedH vm₁ ∧ Stand p l e R s m args below meth c B.U B.locs B.cells B.slots ∧ Post ⟨T.setVm vm₁, locs, cells, slots⟩ (Value.ref b :: argsL).toArray v B ∧
      ∀ target, Steps p.tables e below (B.U.setTop { g with pc := g.pc + 3, stack := v.toList ++ rest }) target → Steps p.tables e below (T.setTop g) target := by
  obtain ⟨mk, methM, hnamed, hmethM, hstM, habM⟩ := Cond.instanceMethod_spec hinst
  obtain ⟨m8, methM', cM, hn8, hmethM', -, -, -, -, -, -, hsigM⟩ := Cond.codeWith_spec hcode
  cases Option.some.inj (hn8.symm.trans hnamed)
  cases hmethM.symm.trans hmethM'
  obtain ⟨c2, r2, m2, q1, q2, q3, q4, kP, hkP, hkPi⟩ := Cond.selects_spec hsel
  cases hcls.symm.trans q1
  cases (State.methodFound?_of_named hnamed hy).symm.trans q2
  cases hnamed.symm.trans q3
  have hselP : selectMethod e.platform s.vm cellB.cls mk = .method mk := by rw [Launch.admits_selectMethod X.admits]; exact q4
  obtain ⟨vm₁, X₁, hstep₁⟩ := X.invokevirtual hexec hown hlink hnamed hmethM hstM hkP hkPi hy (a := b) (cell := cellB) hcell
    (fun z h => by rw [h] at hobj; cases hobj) hselP hmethM habM hkP hkPi (g := g) hg (argsL := argsL) (rest := rest) (hlen _ hsigM) hstack hdg
  obtain ⟨v, B, X', hpost, hsteps⟩ := hK m meth c ⟨T.setVm vm₁, locs, cells, slots⟩ { g with stack := rest } (.invokevirtual index) mk (Value.ref b :: argsL).toArray X₁ hg hsize hdg hW (X₁.named hnamed) (hpre vm₁ X₁.warmed)
  exact ⟨v, vm₁, B, X₁.warmed, X', hpost, fun target h => hstep₁ _ fun acts => by rw [doInvoke_state]; exact hsteps.trans h⟩
abbrev vx_CVW (R : Room) (s : State) (args : Array Value) (own C : String) (index : Nat) (y : MethodName) (bytes : ByteArray) (maxL : Nat) (ret : Option FieldType) (hh : List (Nat × Nat × Nat × Nat)) (ws : List Cond) (rm : Room) (mc ms n : Nat) : Prop :=
  (rm.cells = mc ∧ rm.slots = ms ∧ rm.frames + 1 ≤ R.frames ∧ 8 + (maxL + 11) + rm.locals ≤ R.locals ∧ (∀ w ∈ ws, ∀ (a' : Array Value) (U : State), s.WarmedH U.vm → w.before a' U = true) ∧ Cond.codeWith y bytes maxL ret hh ∈ ws) ∧
  (Cond.codeWith y bytes maxL ret hh).before args s = true ∧ (Cond.initialized y.cls).before args s = true ∧ (y.cls ≠ "java/lang/invoke/MethodHandle" ∧ y.cls ≠ "java/lang/invoke/VarHandle") ∧
  (∀ sig, parseMethodDescriptor y.desc = some sig → n = sig.parameters.length) ∧ (Cond.methodLink own index y).before args s = true ∧ (Cond.instanceMethod y).before args s = true ∧ (Cond.selects C y y).before args s = true
theorem vx_cwVW {own C : String} {index maxL mc ms : Nat} {y : MethodName} {bytes : ByteArray} {ret : Option FieldType} {hh : List (Nat × Nat × Nat × Nat)} {Ts ws ws' : List Cond} {rm : Room} (n : Nat) (ht : ∀ w ∈ Ts, w.before args s = true) (hT : GoodIn Ts (wsV own index C y ws)) (hw : ws = Cond.codeWith y bytes maxL ret hh :: ws') (hrc : rm.cells = mc) (hrs : rm.slots = ms)
    (hd : y.cls = C ∧ y.cls ≠ "java/lang/invoke/MethodHandle" ∧ y.cls ≠ "java/lang/invoke/VarHandle" ∧ (parseMethodDescriptor y.desc).map (fun d => d.parameters.length) = some n) (hR : rm.frames + 1 ≤ R.frames ∧ 8 + (maxL + 11) + rm.locals ≤ R.locals) :
    vx_CVW R s args own C index y bytes maxL ret hh ws rm mc ms n := by
  obtain ⟨hC, hd⟩ := hd
  subst hC
  have ok : ∀ w ∈ wsV own index y.cls y ws, w.before args s = true := fun w h => ht w (hT w h).1
  have hG : GoodIn Ts ws := fun w h => hT w (by unfold wsV; exact List.mem_append_right _ h)
  have hc : Cond.codeWith y bytes maxL ret hh ∈ ws := by rw [hw]; exact List.mem_cons_self
  refine ⟨⟨hrc, hrs, hR.1, hR.2, pay_in ht hG, hc⟩, ht _ (hG _ hc).1, ok _ (by simp [wsV]), ⟨hd.1, hd.2.1⟩, fun sig h => ?_, ok _ (by simp [wsV]), ok _ (by simp [wsV]), ok _ (by simp [wsV])⟩
  have h2 := hd.2.2
  rw [h] at h2
  exact (Option.some.inj h2).symm
theorem vx_runVW {y : MethodName} {bytes cc : ByteArray} {maxL nL mc ms n index : Nat} {ret : Option FieldType} {hh : List (Nat × Nat × Nat × Nat)} {ws : List Cond} {rm : Room} {Pc : Array Value → State → Prop} {Qc : Array Value → State → Outcome → State → Prop} {free : Addr → Prop} {Ts : List Cond} {own C : String} {b : Addr} {As rest : List Value} {g : JFrame}
    (S : CallFix p m c cc nL s args Ts own) (hM : Met l y ws rm Pc Qc mc ms free) (cw : vx_CVW R s args own C index y bytes maxL ret hh ws rm mc ms n) (hp : PreV s H C b Pc As)
    (hg : g.method = m) (hn : As.length = n) (hsize : g.locals.size = nL) (hstack : g.stack = As.reverse ++ .ref b :: rest) (hW : 2 * g.monitorRoom + (rest.map fun v => v.category).sum ≤ 8) (hdg : decode cc g.pc = .ok (.invokevirtual index, 3)) (hf : cells + mc ≤ R.cells ∧ slots + ms ≤ R.slots) :
    va_Run p l e R s m args below meth c H locs cells slots mc ms g rest (Qc (Value.ref b :: As).toArray) free := by
  obtain ⟨⟨hrc, hrs, hfr, hlo, hws, hcw⟩, hcode, hini, hy, hlen, hl, hin, hse⟩ := cw
  have hK : Back l R p e below s args y 3 8 (PreOf R mc ms Pc) (PostOf Qc mc ms free) := va_backW (hh := hh) (bytes := bytes) (maxL := maxL) (ret := ret) hM hp.1 hrc hrs hfr hlo hws hcw (fun a' U hW => word_at hW (Or.inl (by first | rfl | simp [Cond.onTables, Cond.keeps, Cond.steady])) hini)
  obtain ⟨hx, hb, hml, ho, -⟩ := S
  obtain ⟨-, ⟨cellB, hcB, hoB, hclB⟩, hPc⟩ := hp
  intro T hT X
  obtain ⟨v, vm₁, ⟨U', l2, c2, s2⟩, hW₁, X', ⟨g', mk, t, L, e1, e2, hq, h1, hL, h2, h3⟩, st⟩ := vx_callVW X hx (C := C) (hh := hh) (bytes := bytes) (maxL := maxL) (ret := ret) ho hl hin hse hcode hy hK (by rw [hT]; exact hcB) hoB hclB hg (hsize.trans hml.symm) (argsL := As) (rest := rest) (fun sig h => hn.trans (hlen sig h)) hstack hW (by rw [hb]; exact hdg)
    (fun vm₁ hW₁ => ⟨hf.1, hf.2, hPc (T.setVm vm₁) hT hW₁⟩)
  dsimp only [Pt.U, Pt.locs, Pt.cells, Pt.slots] at X' e1 e2 h1 h2 h3 st
  subst h1; subst h2; subst h3
  exact ⟨v, (T.setVm vm₁).calling g' mk (Value.ref b :: As).toArray, t, U', L, hT, X', hL, e1, e2, hq, st⟩
section
variable {y : MethodName} {bytes cc : ByteArray} {maxL nL mc ms n index : Nat} {ret : Option FieldType} {ws : List Cond} {rm : Room} {Pc : Array Value → State → Prop} {Qc : Array Value → State → Outcome → State → Prop} {XC : String → State → State → Prop} {free : Addr → Prop} {Ts : List Cond} {own C : String} {b : Addr} {As rest : List Value} {g : JFrame}
theorem vx_runVX {hh : List (Nat × Nat × Nat × Nat)} (S : CallFix p m c cc nL s args Ts own) (hM : vx_Met l y ws rm Pc Qc XC mc ms free) (cw : vx_CVW R s args own C index y bytes maxL ret hh ws rm mc ms n) (hp : PreV s H C b Pc As)
    (hg : g.method = m) (hn : As.length = n) (hsize : g.locals.size = nL) (hstack : g.stack = As.reverse ++ .ref b :: rest) (hW : 2 * g.monitorRoom + (rest.map fun v => v.category).sum ≤ 8) (hdg : decode cc g.pc = .ok (.invokevirtual index, 3)) (hf : cells + mc ≤ R.cells ∧ slots + ms ≤ R.slots) :
    vx_Run p l e R s m args below meth c H locs cells slots mc ms g rest (Qc (Value.ref b :: As).toArray) XC free := by
  obtain ⟨⟨hrc, hrs, hfr, hlo, hws, hcw⟩, hcode, hini, hy, hlen, hl, hin, hse⟩ := cw
  have hK : vx_Back l R p e below s args y 3 8 (PreOf R mc ms Pc) (PostOf Qc mc ms free) (vx_Post XC mc ms free) := vx_backW (hh := hh) (bytes := bytes) (maxL := maxL) (ret := ret) hM hp.1 hrc hrs hfr hlo hws hcw (fun a' U hW => word_at hW (Or.inl (by first | rfl | simp [Cond.onTables, Cond.keeps, Cond.steady])) hini)
  obtain ⟨hx, hb, hml, ho, -⟩ := S
  obtain ⟨-, ⟨cellB, hcB, hoB, hclB⟩, hPc⟩ := hp
  intro T hT X
  rcases vx_callVX X hx (C := C) (hh := hh) (bytes := bytes) (maxL := maxL) (ret := ret) ho hl hin hse hcode hy hK (by rw [hT]; exact hcB) hoB hclB hg (hsize.trans hml.symm) (argsL := As) (rest := rest) (fun sig h => hn.trans (hlen sig h)) hstack hW (by rw [hb]; exact hdg)
    (fun vm₁ hW₁ => ⟨hf.1, hf.2, hPc (T.setVm vm₁) hT hW₁⟩) with ⟨v, vm₁, ⟨U', l2, c2, s2⟩, hW₁, X', ⟨g', mk, t, L, e1, e2, hq, h1, hL, h2, h3⟩, st⟩ | ⟨q, vm₁, ⟨U', l2, c2, s2⟩, hW₁, X', ⟨g', mk, t, L, E, ce, e1, e2, hq, hce, hcv, hcl, h1, hL, h2, h3⟩, st⟩
  · dsimp only [Pt.U, Pt.locs, Pt.cells, Pt.slots] at X' e1 e2 h1 h2 h3 st
    subst h1; subst h2; subst h3
    exact Or.inl ⟨v, (T.setVm vm₁).calling g' mk (Value.ref b :: As).toArray, t, U', L, hT, X', hL, e1, e2, hq, st⟩
  · dsimp only [Pt.U, Pt.locs, Pt.cells, Pt.slots] at X' e1 e2 h1 h2 h3 st hcl
    subst h1; subst h2; subst h3
    exact Or.inr ⟨q, (T.setVm vm₁).calling g' mk (Value.ref b :: As).toArray, t, U', L, E, ce, hT, X', hL, e1, e2, hq, hce, hcv, vx_cls hW₁ hcl, st⟩
theorem vx_runSX {hh : List (Nat × Nat × Nat × Nat)} (S : CallFix p m c cc nL s args Ts own) (hM : vx_Met l y ws rm Pc Qc XC mc ms free) (cw : vx_CSW R s args own index y bytes maxL ret hh ws rm mc ms n) (hp : PreS s H Pc As)
    (hg : g.method = m) (hn : As.length = n) (hsize : g.locals.size = nL) (hstack : g.stack = As.reverse ++ rest) (hW : 2 * g.monitorRoom + (rest.map fun v => v.category).sum ≤ 8) (hdg : decode cc g.pc = .ok (.invokestatic index, 3)) (hf : cells + mc ≤ R.cells ∧ slots + ms ≤ R.slots) :
    vx_Run p l e R s m args below meth c H locs cells slots mc ms g rest (Qc As.toArray) XC free := by
  obtain ⟨⟨hrc, hrs, hfr, hlo, hws, hcw⟩, hcode, hini, hy, hlen, hl, hstt⟩ := cw
  have hK : vx_Back l R p e below s args y 3 8 (PreOf R mc ms Pc) (PostOf Qc mc ms free) (vx_Post XC mc ms free) := vx_backW (hh := hh) (bytes := bytes) (maxL := maxL) (ret := ret) hM hp.1 hrc hrs hfr hlo hws hcw (fun a' U hW => word_at hW (Or.inl (by first | rfl | simp [Cond.onTables, Cond.keeps, Cond.steady])) hini)
  obtain ⟨hx, hb, hml, ho, -⟩ := S
  intro T hT X
  rcases vx_callSX X hx (hh := hh) (bytes := bytes) (maxL := maxL) (ret := ret) ho hl hstt hini hcode hy hK hg (hsize.trans hml.symm) (argsL := As) (rest := rest) (fun sig h => hn.trans (hlen sig h)) hstack hW (by rw [hb]; exact hdg)
    (fun vm₁ hW₁ => ⟨hf.1, hf.2, hp.2 (T.setVm vm₁) hT hW₁⟩) with ⟨v, vm₁, ⟨U', l2, c2, s2⟩, hW₁, X', ⟨g', mk, t, L, e1, e2, hq, h1, hL, h2, h3⟩, st⟩ | ⟨q, vm₁, ⟨U', l2, c2, s2⟩, hW₁, X', ⟨g', mk, t, L, E, ce, e1, e2, hq, hce, hcv, hcl, h1, hL, h2, h3⟩, st⟩
  · dsimp only [Pt.U, Pt.locs, Pt.cells, Pt.slots] at X' e1 e2 h1 h2 h3 st
    subst h1; subst h2; subst h3
    exact Or.inl ⟨v, (T.setVm vm₁).calling g' mk As.toArray, t, U', L, hT, X', hL, e1, e2, hq, st⟩
  · dsimp only [Pt.U, Pt.locs, Pt.cells, Pt.slots] at X' e1 e2 h1 h2 h3 st hcl
    subst h1; subst h2; subst h3
    exact Or.inr ⟨q, (T.setVm vm₁).calling g' mk As.toArray, t, U', L, E, ce, hT, X', hL, e1, e2, hq, hce, hcv, vx_cls hW₁ hcl, st⟩
end
end VXH
theorem vx_ofWH {l : Launch} {y : MethodName} {ws ws' : List Cond} {rm : Room} {Pc : Array Value → State → Prop} {Qc : Array Value → State → Outcome → State → Prop} {XC : String → State → State → Prop} {mc ms : Nat} {free : Addr → Prop} {cc : ByteArray} {maxL : Nat} {ret : Option FieldType} {hh : List (Nat × Nat × Nat × Nat)}
    (hy : plainName y.cls = true) (hw : ws = Cond.codeWith y cc maxL ret hh :: ws')
    (body : ∀ p e s m args below meth c s₁, BodyLoose p l y (headSpec ws rm) cc maxL ret e s m args below meth c s₁ → c.maxLocals = maxL → Pc args s →
      W p l e (headSpec ws rm).room s m args below meth c s.heap [] 0 0 (vx_MQ below Qc XC args s mc ms free) (entryFrame m args maxL)) : vx_Met l y ws rm Pc Qc XC mc ms free := by
  refine MetFree.of_bodyS (code := cc) (maxLocals := maxL) (ret := ret) hy ?_ ?_
  · intro args s m h hn
    obtain ⟨m9, meth, c, hn9, h1, h2, h3, h4, -, h5, h6, -⟩ := Cond.codeWith_spec (atoms_spec (ws := ws) h _ (by rw [hw]; exact List.mem_cons_self))
    cases hn.symm.trans hn9
    exact ⟨meth, c, h1, h2, h3, h4, h5, h6⟩
  · intro p e s m args below meth c s₁ B hml hP _
    have hh0 : s₁.heap = s.heap := by rw [B.state]; rfl
    obtain ⟨t, a1, o, b1, b2, b3⟩ := body p e s m args below meth c s₁ B hml hP s₁ hh0 (Stand.of_body B)
    exact ⟨t, o, a1, b1, b2, b3⟩
/-! ===== END ===== -/
end
section
/-! the words of the tables that keep: one list for every method -/
def Gall : List Cond := lw_tbl.filter goodWord
theorem gw {w : Cond} (i : Nat) (h : lw_tbl[i]? = some w) (hg : goodWord w = true) : w ∈ Gall := List.mem_filter.mpr ⟨List.mem_of_getElem? h, hg⟩
theorem Gall_good : ∀ w ∈ Gall, goodWord w = true := fun w h => (List.mem_filter.mp h).2
theorem Gall_in : ∀ w ∈ Gall, w ∈ lw_tbl := fun w h => (List.mem_filter.mp h).1
theorem gg {c0 w0 : Cond} (h : w0 ∈ Gall) : GoodIn (c0 :: Gall) (w0 :: Gall) := fun w hw => by
  rcases List.mem_cons.mp hw with rfl | hw
  · exact ⟨List.mem_cons_of_mem _ h, good_of_word (Gall_good _ h)⟩
  · exact ⟨List.mem_cons_of_mem _ hw, good_of_word (Gall_good _ hw)⟩
/-- the texts of the throws -/
def gStr : List (Nat × String) := [(42, "there are 24 patterns"), (184, "there is no such pattern, or it is gone"), (186, "there is no such chain or cell"), (58, "a cell is cared for as 0, 1 or NONE"), (76, "a degree is 1 .. 16"), (90, "there is no such stage"), (93, "the last stage is always tapped"), (188, "there is no such fault"), (135, "from is below 0, or to below from"), (149, "a stream has 1 .. 60 bits"), (151, "a part is 0 or 1"), (160, "a fill is 0 .. 2"), (182, "there is no such what")]
theorem tw_0 : (Jvm.Cond.initialized "PackSeedsLaw") ∈ Gall := gw 40 (by decide +kernel) (by decide +kernel)
theorem tw_1 : (Jvm.Cond.initialized "PackSeeds") ∈ Gall := gw 41 (by decide +kernel) (by decide +kernel)
theorem tw_2 : (Jvm.Cond.initialized "PackSeeds$Shape") ∈ Gall := gw 42 (by decide +kernel) (by decide +kernel)
theorem tw_3 : (Jvm.Cond.initialized "java/lang/Math") ∈ Gall := gw 43 (by decide +kernel) (by decide +kernel)
theorem tw_4 : (Jvm.Cond.initialized "PackSeeds$Machine") ∈ Gall := gw 44 (by decide +kernel) (by decide +kernel)
theorem tw_5 : (Jvm.Cond.initialized "PackSeedsModel") ∈ Gall := gw 45 (by decide +kernel) (by decide +kernel)
theorem tw_6 : (Jvm.Cond.initialized "java/lang/Throwable") ∈ Gall := gw 46 (by decide +kernel) (by decide +kernel)
theorem tw_7 : (Jvm.Cond.initialized "java/lang/Exception") ∈ Gall := gw 47 (by decide +kernel) (by decide +kernel)
theorem tw_8 : (Jvm.Cond.initialized "java/lang/RuntimeException") ∈ Gall := gw 48 (by decide +kernel) (by decide +kernel)
theorem tw_9 : (Jvm.Cond.initialized "java/lang/UnsupportedOperationException") ∈ Gall := gw 49 (by decide +kernel) (by decide +kernel)
theorem tw_10 : (Jvm.Cond.initialized "PackSeeds$Pattern") ∈ Gall := gw 50 (by decide +kernel) (by decide +kernel)
theorem tw_11 : (Jvm.Cond.initialized "java/lang/IndexOutOfBoundsException") ∈ Gall := gw 51 (by decide +kernel) (by decide +kernel)
theorem tw_12 : (Jvm.Cond.initialized "java/lang/IllegalArgumentException") ∈ Gall := gw 52 (by decide +kernel) (by decide +kernel)
theorem tw_13 : (Jvm.Cond.initialized "java/lang/Integer") ∈ Gall := gw 53 (by decide +kernel) (by decide +kernel)
theorem tw_14 : (Jvm.Cond.classLink "PackSeedsLaw" (8 : Nat) "PackSeeds") ∈ Gall := gw 54 (by decide +kernel) (by decide +kernel)
theorem tw_15 : (Jvm.Cond.instantiable "PackSeeds" (5 : Nat)) ∈ Gall := gw 55 (by decide +kernel) (by decide +kernel)
theorem tw_16 : (Jvm.Cond.methodLink "PackSeedsLaw" (77 : Nat) ({ cls := "PackSeeds", name := "<init>", desc := "(II)V" } : Jvm.MethodName)) ∈ Gall := gw 56 (by decide +kernel) (by decide +kernel)
theorem tw_17 : (Jvm.Cond.instanceMethod ({ cls := "PackSeeds", name := "<init>", desc := "(II)V" } : Jvm.MethodName)) ∈ Gall := gw 57 (by decide +kernel) (by decide +kernel)
theorem tw_18 : (Jvm.Cond.code ({ cls := "PackSeeds", name := "<init>", desc := "(II)V" } : Jvm.MethodName) prog_1_method_1_code (3 : Nat) (Option.none : Option Jvm.ClassFile.FieldType)) ∈ Gall := gw 58 (by decide +kernel) (by decide +kernel)
theorem tw_19 : (Jvm.Cond.methodLink "PackSeeds" (1 : Nat) ({ cls := "java/lang/Object", name := "<init>", desc := "()V" } : Jvm.MethodName)) ∈ Gall := gw 59 (by decide +kernel) (by decide +kernel)
theorem tw_20 : (Jvm.Cond.instanceMethod ({ cls := "java/lang/Object", name := "<init>", desc := "()V" } : Jvm.MethodName)) ∈ Gall := gw 60 (by decide +kernel) (by decide +kernel)
theorem tw_21 : (Jvm.Cond.code ({ cls := "java/lang/Object", name := "<init>", desc := "()V" } : Jvm.MethodName) object_method_1_code (1 : Nat) (Option.none : Option Jvm.ClassFile.FieldType)) ∈ Gall := gw 61 (by decide +kernel) (by decide +kernel)
theorem tw_22 : (Jvm.Cond.classLink "PackSeeds" (7 : Nat) "PackSeeds$Shape") ∈ Gall := gw 62 (by decide +kernel) (by decide +kernel)
theorem tw_23 : (Jvm.Cond.instantiable "PackSeeds$Shape" (2 : Nat)) ∈ Gall := gw 63 (by decide +kernel) (by decide +kernel)
theorem tw_25 : (Jvm.Cond.instanceMethod ({ cls := "PackSeeds$Shape", name := "<init>", desc := "(II)V" } : Jvm.MethodName)) ∈ Gall := gw 65 (by decide +kernel) (by decide +kernel)
theorem tw_26 : (Jvm.Cond.code ({ cls := "PackSeeds$Shape", name := "<init>", desc := "(II)V" } : Jvm.MethodName) prog_4_method_1_code (3 : Nat) (Option.none : Option Jvm.ClassFile.FieldType)) ∈ Gall := gw 66 (by decide +kernel) (by decide +kernel)
theorem tw_27 : (Jvm.Cond.methodLink "PackSeeds$Shape" (3 : Nat) ({ cls := "java/lang/Object", name := "<init>", desc := "()V" } : Jvm.MethodName)) ∈ Gall := gw 67 (by decide +kernel) (by decide +kernel)
theorem tw_28 : (Jvm.Cond.methodLink "PackSeeds$Shape" (9 : Nat) ({ cls := "java/lang/Math", name := "max", desc := "(II)I" } : Jvm.MethodName)) ∈ Gall := gw 68 (by decide +kernel) (by decide +kernel)
theorem tw_29 : (Jvm.Cond.static ({ cls := "java/lang/Math", name := "max", desc := "(II)I" } : Jvm.MethodName)) ∈ Gall := gw 69 (by decide +kernel) (by decide +kernel)
theorem tw_30 : (Jvm.Cond.code ({ cls := "java/lang/Math", name := "max", desc := "(II)I" } : Jvm.MethodName) prog_11_method_65_code (2 : Nat) (Option.some Jvm.ClassFile.FieldType.int)) ∈ Gall := gw 70 (by decide +kernel) (by decide +kernel)
theorem tw_31 : (Jvm.Cond.methodLink "PackSeeds$Shape" (15 : Nat) ({ cls := "java/lang/Math", name := "min", desc := "(II)I" } : Jvm.MethodName)) ∈ Gall := gw 71 (by decide +kernel) (by decide +kernel)
theorem tw_32 : (Jvm.Cond.static ({ cls := "java/lang/Math", name := "min", desc := "(II)I" } : Jvm.MethodName)) ∈ Gall := gw 72 (by decide +kernel) (by decide +kernel)
theorem tw_33 : (Jvm.Cond.code ({ cls := "java/lang/Math", name := "min", desc := "(II)I" } : Jvm.MethodName) prog_11_method_69_code (2 : Nat) (Option.some Jvm.ClassFile.FieldType.int)) ∈ Gall := gw 73 (by decide +kernel) (by decide +kernel)
theorem tw_34 : (Jvm.Cond.fieldLink "PackSeeds$Shape" (18 : Nat) "PackSeeds$Shape" "chains" "I") ∈ Gall := gw 74 (by decide +kernel) (by decide +kernel)
theorem tw_37 : (Jvm.Cond.fieldLink "PackSeeds$Shape" (24 : Nat) "PackSeeds$Shape" "cells" "I") ∈ Gall := gw 77 (by decide +kernel) (by decide +kernel)
theorem tw_40 : (Jvm.Cond.laysFinal "PackSeeds$Shape" "PackSeeds$Shape" "chains" "I") ∈ Gall := gw 80 (by decide +kernel) (by decide +kernel)
theorem tw_42 : (Jvm.Cond.laysFinal "PackSeeds$Shape" "PackSeeds$Shape" "cells" "I") ∈ Gall := gw 82 (by decide +kernel) (by decide +kernel)
theorem tw_45 : (Jvm.Cond.classLink "PackSeeds" (18 : Nat) "PackSeeds$Machine") ∈ Gall := gw 85 (by decide +kernel) (by decide +kernel)
theorem tw_46 : (Jvm.Cond.instantiable "PackSeeds$Machine" (4 : Nat)) ∈ Gall := gw 86 (by decide +kernel) (by decide +kernel)
theorem tw_48 : (Jvm.Cond.instanceMethod ({ cls := "PackSeeds$Machine", name := "<init>", desc := "(LPackSeeds$Shape;)V" } : Jvm.MethodName)) ∈ Gall := gw 88 (by decide +kernel) (by decide +kernel)
theorem tw_49 : (Jvm.Cond.code ({ cls := "PackSeeds$Machine", name := "<init>", desc := "(LPackSeeds$Shape;)V" } : Jvm.MethodName) prog_2_method_1_code (2 : Nat) (Option.none : Option Jvm.ClassFile.FieldType)) ∈ Gall := gw 89 (by decide +kernel) (by decide +kernel)
theorem tw_50 : (Jvm.Cond.methodLink "PackSeeds$Machine" (3 : Nat) ({ cls := "java/lang/Object", name := "<init>", desc := "()V" } : Jvm.MethodName)) ∈ Gall := gw 90 (by decide +kernel) (by decide +kernel)
theorem tw_51 : (Jvm.Cond.fieldLink "PackSeeds$Machine" (9 : Nat) "PackSeeds$Machine" "shape" "LPackSeeds$Shape;") ∈ Gall := gw 91 (by decide +kernel) (by decide +kernel)
theorem tw_52 : (Jvm.Cond.fieldLink "PackSeeds$Machine" (15 : Nat) "PackSeeds$Machine" "rows" "[J") ∈ Gall := gw 92 (by decide +kernel) (by decide +kernel)
theorem tw_53 : (Jvm.Cond.fieldLink "PackSeeds$Machine" (19 : Nat) "PackSeeds$Machine" "stages" "I") ∈ Gall := gw 93 (by decide +kernel) (by decide +kernel)
theorem tw_55 : (Jvm.Cond.fieldLink "PackSeeds$Machine" (23 : Nat) "PackSeeds$Machine" "taps" "I") ∈ Gall := gw 95 (by decide +kernel) (by decide +kernel)
theorem tw_56 : (Jvm.Cond.laysFinal "PackSeeds$Machine" "PackSeeds$Machine" "shape" "LPackSeeds$Shape;") ∈ Gall := gw 96 (by decide +kernel) (by decide +kernel)
theorem tw_58 : (Jvm.Cond.laysFinal "PackSeeds$Machine" "PackSeeds$Machine" "rows" "[J") ∈ Gall := gw 98 (by decide +kernel) (by decide +kernel)
theorem tw_60 : (Jvm.Cond.lays "PackSeeds$Machine" "PackSeeds$Machine" "stages" "I") ∈ Gall := gw 100 (by decide +kernel) (by decide +kernel)
theorem tw_62 : (Jvm.Cond.lays "PackSeeds$Machine" "PackSeeds$Machine" "taps" "I") ∈ Gall := gw 102 (by decide +kernel) (by decide +kernel)
theorem tw_65 : (Jvm.Cond.arrayClass Jvm.ClassFile.FieldType.long) ∈ Gall := gw 105 (by decide +kernel) (by decide +kernel)
theorem tw_66 : (Jvm.Cond.classLink "PackSeeds" (27 : Nat) "PackSeeds$Pattern") ∈ Gall := gw 106 (by decide +kernel) (by decide +kernel)
theorem tw_68 : (Jvm.Cond.fieldLink "PackSeeds" (12 : Nat) "PackSeeds" "shape" "LPackSeeds$Shape;") ∈ Gall := gw 108 (by decide +kernel) (by decide +kernel)
theorem tw_69 : (Jvm.Cond.fieldLink "PackSeeds" (23 : Nat) "PackSeeds" "machine" "LPackSeeds$Machine;") ∈ Gall := gw 109 (by decide +kernel) (by decide +kernel)
theorem tw_70 : (Jvm.Cond.fieldLink "PackSeeds" (29 : Nat) "PackSeeds" "patterns" "[LPackSeeds$Pattern;") ∈ Gall := gw 110 (by decide +kernel) (by decide +kernel)
theorem tw_71 : (Jvm.Cond.fieldLink "PackSeeds" (33 : Nat) "PackSeeds" "made" "I") ∈ Gall := gw 111 (by decide +kernel) (by decide +kernel)
theorem tw_72 : (Jvm.Cond.fieldLink "PackSeeds" (37 : Nat) "PackSeeds" "fillKind" "I") ∈ Gall := gw 112 (by decide +kernel) (by decide +kernel)
theorem tw_73 : (Jvm.Cond.laysFinal "PackSeeds" "PackSeeds" "shape" "LPackSeeds$Shape;") ∈ Gall := gw 113 (by decide +kernel) (by decide +kernel)
theorem tw_75 : (Jvm.Cond.laysFinal "PackSeeds" "PackSeeds" "machine" "LPackSeeds$Machine;") ∈ Gall := gw 115 (by decide +kernel) (by decide +kernel)
theorem tw_77 : (Jvm.Cond.laysFinal "PackSeeds" "PackSeeds" "patterns" "[LPackSeeds$Pattern;") ∈ Gall := gw 117 (by decide +kernel) (by decide +kernel)
theorem tw_79 : (Jvm.Cond.lays "PackSeeds" "PackSeeds" "made" "I") ∈ Gall := gw 119 (by decide +kernel) (by decide +kernel)
theorem tw_81 : (Jvm.Cond.lays "PackSeeds" "PackSeeds" "fillKind" "I") ∈ Gall := gw 121 (by decide +kernel) (by decide +kernel)
theorem tw_84 : (Jvm.Cond.methodLink "PackSeedsLaw" (94 : Nat) ({ cls := "PackSeeds", name := "join", desc := "()I" } : Jvm.MethodName)) ∈ Gall := gw 124 (by decide +kernel) (by decide +kernel)
theorem tw_85 : (Jvm.Cond.instanceMethod ({ cls := "PackSeeds", name := "join", desc := "()I" } : Jvm.MethodName)) ∈ Gall := gw 125 (by decide +kernel) (by decide +kernel)
theorem tw_86 : (Jvm.Cond.selects "PackSeeds" ({ cls := "PackSeeds", name := "join", desc := "()I" } : Jvm.MethodName) ({ cls := "PackSeeds", name := "join", desc := "()I" } : Jvm.MethodName)) ∈ Gall := gw 126 (by decide +kernel) (by decide +kernel)
theorem tw_87 : (Jvm.Cond.code ({ cls := "PackSeeds", name := "join", desc := "()I" } : Jvm.MethodName) prog_1_method_4_code (3 : Nat) (Option.some Jvm.ClassFile.FieldType.int)) ∈ Gall := gw 127 (by decide +kernel) (by decide +kernel)
theorem tw_88 : (Jvm.Cond.methodLink "PackSeeds" (65 : Nat) ({ cls := "PackSeeds", name := "presentOrNull", desc := "(I)LPackSeeds$Pattern;" } : Jvm.MethodName)) ∈ Gall := gw 128 (by decide +kernel) (by decide +kernel)
theorem tw_90 : (Jvm.Cond.instanceMethod ({ cls := "PackSeeds", name := "presentOrNull", desc := "(I)LPackSeeds$Pattern;" } : Jvm.MethodName)) ∈ Gall := gw 130 (by decide +kernel) (by decide +kernel)
theorem tw_91 : (Jvm.Cond.code ({ cls := "PackSeeds", name := "presentOrNull", desc := "(I)LPackSeeds$Pattern;" } : Jvm.MethodName) prog_1_method_20_code (3 : Nat) (Option.some (Jvm.ClassFile.FieldType.object "PackSeeds$Pattern"))) ∈ Gall := gw 131 (by decide +kernel) (by decide +kernel)
theorem tw_92 : (Jvm.Cond.methodLink "PackSeeds" (68 : Nat) ({ cls := "PackSeeds", name := "takeFromBehind", desc := "(LPackSeeds$Pattern;I)V" } : Jvm.MethodName)) ∈ Gall := gw 132 (by decide +kernel) (by decide +kernel)
theorem tw_94 : (Jvm.Cond.instanceMethod ({ cls := "PackSeeds", name := "takeFromBehind", desc := "(LPackSeeds$Pattern;I)V" } : Jvm.MethodName)) ∈ Gall := gw 134 (by decide +kernel) (by decide +kernel)
theorem tw_95 : (Jvm.Cond.code ({ cls := "PackSeeds", name := "takeFromBehind", desc := "(LPackSeeds$Pattern;I)V" } : Jvm.MethodName) prog_1_method_25_code (5 : Nat) (Option.none : Option Jvm.ClassFile.FieldType)) ∈ Gall := gw 135 (by decide +kernel) (by decide +kernel)
theorem tw_98 : (Jvm.Cond.instanceMethod ({ cls := "PackSeeds$Pattern", name := "goesWith", desc := "(LPackSeeds$Pattern;)Z" } : Jvm.MethodName)) ∈ Gall := gw 138 (by decide +kernel) (by decide +kernel)
theorem tw_99 : (Jvm.Cond.instantiable "PackSeeds$Pattern" (6 : Nat)) ∈ Gall := gw 139 (by decide +kernel) (by decide +kernel)
theorem tw_100 : (Jvm.Cond.code ({ cls := "PackSeeds$Pattern", name := "goesWith", desc := "(LPackSeeds$Pattern;)Z" } : Jvm.MethodName) prog_3_method_4_code (2 : Nat) (Option.some Jvm.ClassFile.FieldType.boolean)) ∈ Gall := gw 140 (by decide +kernel) (by decide +kernel)
theorem tw_103 : (Jvm.Cond.instanceMethod ({ cls := "PackSeeds$Pattern", name := "take", desc := "(LPackSeeds$Pattern;)V" } : Jvm.MethodName)) ∈ Gall := gw 143 (by decide +kernel) (by decide +kernel)
theorem tw_104 : (Jvm.Cond.code ({ cls := "PackSeeds$Pattern", name := "take", desc := "(LPackSeeds$Pattern;)V" } : Jvm.MethodName) prog_3_method_5_code (2 : Nat) (Option.none : Option Jvm.ClassFile.FieldType)) ∈ Gall := gw 144 (by decide +kernel) (by decide +kernel)
theorem tw_105 : (Jvm.Cond.methodLink "PackSeeds" (72 : Nat) ({ cls := "PackSeeds", name := "countPresent", desc := "()I" } : Jvm.MethodName)) ∈ Gall := gw 145 (by decide +kernel) (by decide +kernel)
theorem tw_107 : (Jvm.Cond.instanceMethod ({ cls := "PackSeeds", name := "countPresent", desc := "()I" } : Jvm.MethodName)) ∈ Gall := gw 147 (by decide +kernel) (by decide +kernel)
theorem tw_108 : (Jvm.Cond.code ({ cls := "PackSeeds", name := "countPresent", desc := "()I" } : Jvm.MethodName) prog_1_method_28_code (3 : Nat) (Option.some Jvm.ClassFile.FieldType.int)) ∈ Gall := gw 148 (by decide +kernel) (by decide +kernel)
theorem tw_109 : (Jvm.Cond.methodLink "PackSeedsLaw" (121 : Nat) ({ cls := "PackSeeds", name := "drop", desc := "()I" } : Jvm.MethodName)) ∈ Gall := gw 149 (by decide +kernel) (by decide +kernel)
theorem tw_110 : (Jvm.Cond.instanceMethod ({ cls := "PackSeeds", name := "drop", desc := "()I" } : Jvm.MethodName)) ∈ Gall := gw 150 (by decide +kernel) (by decide +kernel)
theorem tw_111 : (Jvm.Cond.selects "PackSeeds" ({ cls := "PackSeeds", name := "drop", desc := "()I" } : Jvm.MethodName) ({ cls := "PackSeeds", name := "drop", desc := "()I" } : Jvm.MethodName)) ∈ Gall := gw 151 (by decide +kernel) (by decide +kernel)
theorem tw_112 : (Jvm.Cond.code ({ cls := "PackSeeds", name := "drop", desc := "()I" } : Jvm.MethodName) prog_1_method_11_code (3 : Nat) (Option.some Jvm.ClassFile.FieldType.int)) ∈ Gall := gw 152 (by decide +kernel) (by decide +kernel)
theorem tw_113 : (Jvm.Cond.methodLink "PackSeeds" (125 : Nat) ({ cls := "PackSeeds", name := "faultsOfAllBut", desc := "(I)I" } : Jvm.MethodName)) ∈ Gall := gw 153 (by decide +kernel) (by decide +kernel)
theorem tw_115 : (Jvm.Cond.instanceMethod ({ cls := "PackSeeds", name := "faultsOfAllBut", desc := "(I)I" } : Jvm.MethodName)) ∈ Gall := gw 155 (by decide +kernel) (by decide +kernel)
theorem tw_116 : (Jvm.Cond.code ({ cls := "PackSeeds", name := "faultsOfAllBut", desc := "(I)I" } : Jvm.MethodName) prog_1_method_27_code (5 : Nat) (Option.some Jvm.ClassFile.FieldType.int)) ∈ Gall := gw 156 (by decide +kernel) (by decide +kernel)
theorem tw_117 : (Jvm.Cond.methodLink "PackSeedsLaw" (134 : Nat) ({ cls := "PackSeeds", name := "primitive", desc := "()Z" } : Jvm.MethodName)) ∈ Gall := gw 157 (by decide +kernel) (by decide +kernel)
theorem tw_118 : (Jvm.Cond.instanceMethod ({ cls := "PackSeeds", name := "primitive", desc := "()Z" } : Jvm.MethodName)) ∈ Gall := gw 158 (by decide +kernel) (by decide +kernel)
theorem tw_119 : (Jvm.Cond.selects "PackSeeds" ({ cls := "PackSeeds", name := "primitive", desc := "()Z" } : Jvm.MethodName) ({ cls := "PackSeeds", name := "primitive", desc := "()Z" } : Jvm.MethodName)) ∈ Gall := gw 159 (by decide +kernel) (by decide +kernel)
theorem tw_120 : (Jvm.Cond.code ({ cls := "PackSeeds", name := "primitive", desc := "()Z" } : Jvm.MethodName) prog_1_method_15_code (1 : Nat) (Option.some Jvm.ClassFile.FieldType.boolean)) ∈ Gall := gw 160 (by decide +kernel) (by decide +kernel)
theorem tw_123 : (Jvm.Cond.instanceMethod ({ cls := "PackSeeds$Machine", name := "hasLongestCycle", desc := "()Z" } : Jvm.MethodName)) ∈ Gall := gw 163 (by decide +kernel) (by decide +kernel)
theorem tw_124 : (Jvm.Cond.code ({ cls := "PackSeeds$Machine", name := "hasLongestCycle", desc := "()Z" } : Jvm.MethodName) prog_2_method_9_code (4 : Nat) (Option.some Jvm.ClassFile.FieldType.boolean)) ∈ Gall := gw 164 (by decide +kernel) (by decide +kernel)
theorem tw_125 : (Jvm.Cond.methodLink "PackSeeds$Machine" (47 : Nat) ({ cls := "PackSeeds$Machine", name := "step", desc := "(I)I" } : Jvm.MethodName)) ∈ Gall := gw 165 (by decide +kernel) (by decide +kernel)
theorem tw_127 : (Jvm.Cond.instanceMethod ({ cls := "PackSeeds$Machine", name := "step", desc := "(I)I" } : Jvm.MethodName)) ∈ Gall := gw 167 (by decide +kernel) (by decide +kernel)
theorem tw_128 : (Jvm.Cond.code ({ cls := "PackSeeds$Machine", name := "step", desc := "(I)I" } : Jvm.MethodName) prog_2_method_5_code (3 : Nat) (Option.some Jvm.ClassFile.FieldType.int)) ∈ Gall := gw 168 (by decide +kernel) (by decide +kernel)
theorem tw_129 : (Jvm.Cond.methodLink "PackSeeds$Machine" (26 : Nat) ({ cls := "java/lang/Integer", name := "bitCount", desc := "(I)I" } : Jvm.MethodName)) ∈ Gall := gw 169 (by decide +kernel) (by decide +kernel)
theorem tw_130 : (Jvm.Cond.static ({ cls := "java/lang/Integer", name := "bitCount", desc := "(I)I" } : Jvm.MethodName)) ∈ Gall := gw 170 (by decide +kernel) (by decide +kernel)
theorem tw_131 : (Jvm.Cond.code ({ cls := "java/lang/Integer", name := "bitCount", desc := "(I)I" } : Jvm.MethodName) prog_10_method_49_code (1 : Nat) (Option.some Jvm.ClassFile.FieldType.int)) ∈ Gall := gw 171 (by decide +kernel) (by decide +kernel)
theorem tw_132 : (Jvm.Cond.constant "java/lang/Integer" (265 : Nat) (1431655765 : Int32)) ∈ Gall := gw 172 (by decide +kernel) (by decide +kernel)
theorem tw_133 : (Jvm.Cond.constant "java/lang/Integer" (266 : Nat) (858993459 : Int32)) ∈ Gall := gw 173 (by decide +kernel) (by decide +kernel)
theorem tw_134 : (Jvm.Cond.constant "java/lang/Integer" (267 : Nat) (252645135 : Int32)) ∈ Gall := gw 174 (by decide +kernel) (by decide +kernel)
theorem tw_135 : (Jvm.Cond.methodLink "PackSeedsLaw" (71 : Nat) ({ cls := "PackSeedsLaw", name := "cell", desc := "([II)I" } : Jvm.MethodName)) ∈ Gall := gw 175 (by decide +kernel) (by decide +kernel)
theorem tw_136 : (Jvm.Cond.static ({ cls := "PackSeedsLaw", name := "cell", desc := "([II)I" } : Jvm.MethodName)) ∈ Gall := gw 176 (by decide +kernel) (by decide +kernel)
theorem tw_137 : (Jvm.Cond.code ({ cls := "PackSeedsLaw", name := "cell", desc := "([II)I" } : Jvm.MethodName) method_2_code (2 : Nat) (Option.some Jvm.ClassFile.FieldType.int)) ∈ Gall := gw 177 (by decide +kernel) (by decide +kernel)
theorem tw_138 : (Jvm.Cond.methodLink "PackSeedsLaw" (83 : Nat) ({ cls := "PackSeedsLaw", name := "pattern", desc := "(LPackSeeds;[J)I" } : Jvm.MethodName)) ∈ Gall := gw 178 (by decide +kernel) (by decide +kernel)
theorem tw_139 : (Jvm.Cond.static ({ cls := "PackSeedsLaw", name := "pattern", desc := "(LPackSeeds;[J)I" } : Jvm.MethodName)) ∈ Gall := gw 179 (by decide +kernel) (by decide +kernel)
theorem tw_140 : (Jvm.Cond.codeWith ({ cls := "PackSeedsLaw", name := "pattern", desc := "(LPackSeeds;[J)I" } : Jvm.MethodName) method_3_code (3 : Nat) (Option.some Jvm.ClassFile.FieldType.int) [((0 : Nat), (8 : Nat), (11 : Nat), (13 : Nat))]) ∈ Gall := gw 180 (by decide +kernel) (by decide +kernel)
theorem tw_141 : (Jvm.Cond.classLink "PackSeedsLaw" (13 : Nat) "java/lang/UnsupportedOperationException") ∈ Gall := gw 181 (by decide +kernel) (by decide +kernel)
theorem tw_142 : (Jvm.Cond.methodLink "PackSeedsLaw" (7 : Nat) ({ cls := "PackSeeds", name := "pattern", desc := "()I" } : Jvm.MethodName)) ∈ Gall := gw 182 (by decide +kernel) (by decide +kernel)
theorem tw_143 : (Jvm.Cond.instanceMethod ({ cls := "PackSeeds", name := "pattern", desc := "()I" } : Jvm.MethodName)) ∈ Gall := gw 183 (by decide +kernel) (by decide +kernel)
theorem tw_144 : (Jvm.Cond.selects "PackSeeds" ({ cls := "PackSeeds", name := "pattern", desc := "()I" } : Jvm.MethodName) ({ cls := "PackSeeds", name := "pattern", desc := "()I" } : Jvm.MethodName)) ∈ Gall := gw 184 (by decide +kernel) (by decide +kernel)
theorem tw_145 : (Jvm.Cond.code ({ cls := "PackSeeds", name := "pattern", desc := "()I" } : Jvm.MethodName) prog_1_method_2_code (2 : Nat) (Option.some Jvm.ClassFile.FieldType.int)) ∈ Gall := gw 185 (by decide +kernel) (by decide +kernel)
theorem tw_146 : (Jvm.Cond.classLink "PackSeeds" (40 : Nat) "java/lang/UnsupportedOperationException") ∈ Gall := gw 186 (by decide +kernel) (by decide +kernel)
theorem tw_147 : (Jvm.Cond.instantiable "java/lang/UnsupportedOperationException" (6 : Nat)) ∈ Gall := gw 187 (by decide +kernel) (by decide +kernel)
theorem tw_155 : (Jvm.Cond.selects "java/lang/UnsupportedOperationException" ({ cls := "java/lang/Throwable", name := "fillInStackTrace", desc := "(I)Ljava/lang/Throwable;" } : Jvm.MethodName) ({ cls := "java/lang/Throwable", name := "fillInStackTrace", desc := "(I)Ljava/lang/Throwable;" } : Jvm.MethodName)) ∈ Gall := gw 195 (by decide +kernel) (by decide +kernel)
theorem tw_156 : (Jvm.Cond.selects "java/lang/UnsupportedOperationException" ({ cls := "java/lang/Throwable", name := "fillInStackTrace", desc := "()Ljava/lang/Throwable;" } : Jvm.MethodName) ({ cls := "java/lang/Throwable", name := "fillInStackTrace", desc := "()Ljava/lang/Throwable;" } : Jvm.MethodName)) ∈ Gall := gw 196 (by decide +kernel) (by decide +kernel)
theorem tw_157 : (Jvm.Cond.lays "java/lang/UnsupportedOperationException" "java/lang/Throwable" "cause" "Ljava/lang/Throwable;") ∈ Gall := gw 197 (by decide +kernel) (by decide +kernel)
theorem tw_158 : (Jvm.Cond.lays "java/lang/Throwable" "java/lang/Throwable" "cause" "Ljava/lang/Throwable;") ∈ Gall := gw 198 (by decide +kernel) (by decide +kernel)
theorem tw_159 : (Jvm.Cond.lays "java/lang/UnsupportedOperationException" "java/lang/Throwable" "stackTrace" "[Ljava/lang/StackTraceElement;") ∈ Gall := gw 199 (by decide +kernel) (by decide +kernel)
theorem tw_160 : (Jvm.Cond.lays "java/lang/Throwable" "java/lang/Throwable" "stackTrace" "[Ljava/lang/StackTraceElement;") ∈ Gall := gw 200 (by decide +kernel) (by decide +kernel)
theorem tw_161 : (Jvm.Cond.lays "java/lang/UnsupportedOperationException" "java/lang/Throwable" "suppressedExceptions" "Ljava/util/List;") ∈ Gall := gw 201 (by decide +kernel) (by decide +kernel)
theorem tw_162 : (Jvm.Cond.lays "java/lang/Throwable" "java/lang/Throwable" "suppressedExceptions" "Ljava/util/List;") ∈ Gall := gw 202 (by decide +kernel) (by decide +kernel)
theorem tw_163 : (Jvm.Cond.lays "java/lang/UnsupportedOperationException" "java/lang/Throwable" "detailMessage" "Ljava/lang/String;") ∈ Gall := gw 203 (by decide +kernel) (by decide +kernel)
theorem tw_164 : (Jvm.Cond.lays "java/lang/Throwable" "java/lang/Throwable" "detailMessage" "Ljava/lang/String;") ∈ Gall := gw 204 (by decide +kernel) (by decide +kernel)
theorem tw_165 : (Jvm.Cond.lays "java/lang/UnsupportedOperationException" "java/lang/Throwable" "backtrace" "Ljava/lang/Object;") ∈ Gall := gw 205 (by decide +kernel) (by decide +kernel)
theorem tw_166 : (Jvm.Cond.lays "java/lang/Throwable" "java/lang/Throwable" "backtrace" "Ljava/lang/Object;") ∈ Gall := gw 206 (by decide +kernel) (by decide +kernel)
theorem tw_167 : (Jvm.Cond.fieldLink "java/lang/Throwable" (198 : Nat) "java/lang/Throwable" "backtrace" "Ljava/lang/Object;") ∈ Gall := gw 207 (by decide +kernel) (by decide +kernel)
theorem tw_169 : (Jvm.Cond.instanceMethod ({ cls := "java/lang/Throwable", name := "<init>", desc := "()V" } : Jvm.MethodName)) ∈ Gall := gw 209 (by decide +kernel) (by decide +kernel)
theorem tw_170 : (Jvm.Cond.code ({ cls := "java/lang/Throwable", name := "<init>", desc := "()V" } : Jvm.MethodName) prog_14_method_1_code (1 : Nat) (Option.none : Option Jvm.ClassFile.FieldType)) ∈ Gall := gw 210 (by decide +kernel) (by decide +kernel)
theorem tw_171 : (Jvm.Cond.methodLink "java/lang/Throwable" (1 : Nat) ({ cls := "java/lang/Object", name := "<init>", desc := "()V" } : Jvm.MethodName)) ∈ Gall := gw 211 (by decide +kernel) (by decide +kernel)
theorem tw_172 : (Jvm.Cond.fieldLink "java/lang/Throwable" (13 : Nat) "java/lang/Throwable" "UNASSIGNED_STACK" "[Ljava/lang/StackTraceElement;") ∈ Gall := gw 212 (by decide +kernel) (by decide +kernel)
theorem tw_174 : (Jvm.Cond.fieldLink "java/lang/Throwable" (20 : Nat) "java/lang/Throwable" "SUPPRESSED_SENTINEL" "Ljava/util/List;") ∈ Gall := gw 214 (by decide +kernel) (by decide +kernel)
theorem tw_176 : (Jvm.Cond.methodLink "java/lang/Throwable" (27 : Nat) ({ cls := "java/lang/Throwable", name := "fillInStackTrace", desc := "()Ljava/lang/Throwable;" } : Jvm.MethodName)) ∈ Gall := gw 216 (by decide +kernel) (by decide +kernel)
theorem tw_177 : (Jvm.Cond.instanceMethod ({ cls := "java/lang/Throwable", name := "fillInStackTrace", desc := "()Ljava/lang/Throwable;" } : Jvm.MethodName)) ∈ Gall := gw 217 (by decide +kernel) (by decide +kernel)
theorem tw_179 : (Jvm.Cond.selects "java/lang/IllegalArgumentException" ({ cls := "java/lang/Throwable", name := "fillInStackTrace", desc := "()Ljava/lang/Throwable;" } : Jvm.MethodName) ({ cls := "java/lang/Throwable", name := "fillInStackTrace", desc := "()Ljava/lang/Throwable;" } : Jvm.MethodName)) ∈ Gall := gw 219 (by decide +kernel) (by decide +kernel)
theorem tw_180 : (Jvm.Cond.selects "java/lang/IndexOutOfBoundsException" ({ cls := "java/lang/Throwable", name := "fillInStackTrace", desc := "()Ljava/lang/Throwable;" } : Jvm.MethodName) ({ cls := "java/lang/Throwable", name := "fillInStackTrace", desc := "()Ljava/lang/Throwable;" } : Jvm.MethodName)) ∈ Gall := gw 220 (by decide +kernel) (by decide +kernel)
theorem tw_182 : (Jvm.Cond.methodLink "java/lang/Throwable" (202 : Nat) ({ cls := "java/lang/Throwable", name := "fillInStackTrace", desc := "(I)Ljava/lang/Throwable;" } : Jvm.MethodName)) ∈ Gall := gw 222 (by decide +kernel) (by decide +kernel)
theorem tw_184 : (Jvm.Cond.instanceMethod ({ cls := "java/lang/Throwable", name := "fillInStackTrace", desc := "(I)Ljava/lang/Throwable;" } : Jvm.MethodName)) ∈ Gall := gw 224 (by decide +kernel) (by decide +kernel)
theorem tw_185 : (Jvm.Cond.instantiable "java/lang/Throwable" (6 : Nat)) ∈ Gall := gw 225 (by decide +kernel) (by decide +kernel)
theorem tw_188 : (Jvm.Cond.methodLink "PackSeeds" (44 : Nat) ({ cls := "java/lang/UnsupportedOperationException", name := "<init>", desc := "(Ljava/lang/String;)V" } : Jvm.MethodName)) ∈ Gall := gw 228 (by decide +kernel) (by decide +kernel)
theorem tw_189 : (Jvm.Cond.instanceMethod ({ cls := "java/lang/UnsupportedOperationException", name := "<init>", desc := "(Ljava/lang/String;)V" } : Jvm.MethodName)) ∈ Gall := gw 229 (by decide +kernel) (by decide +kernel)
theorem tw_190 : (Jvm.Cond.code ({ cls := "java/lang/UnsupportedOperationException", name := "<init>", desc := "(Ljava/lang/String;)V" } : Jvm.MethodName) prog_15_method_2_code (2 : Nat) (Option.none : Option Jvm.ClassFile.FieldType)) ∈ Gall := gw 230 (by decide +kernel) (by decide +kernel)
theorem tw_191 : (Jvm.Cond.methodLink "java/lang/UnsupportedOperationException" (7 : Nat) ({ cls := "java/lang/RuntimeException", name := "<init>", desc := "(Ljava/lang/String;)V" } : Jvm.MethodName)) ∈ Gall := gw 231 (by decide +kernel) (by decide +kernel)
theorem tw_192 : (Jvm.Cond.instanceMethod ({ cls := "java/lang/RuntimeException", name := "<init>", desc := "(Ljava/lang/String;)V" } : Jvm.MethodName)) ∈ Gall := gw 232 (by decide +kernel) (by decide +kernel)
theorem tw_193 : (Jvm.Cond.code ({ cls := "java/lang/RuntimeException", name := "<init>", desc := "(Ljava/lang/String;)V" } : Jvm.MethodName) prog_12_method_2_code (2 : Nat) (Option.none : Option Jvm.ClassFile.FieldType)) ∈ Gall := gw 233 (by decide +kernel) (by decide +kernel)
theorem tw_194 : (Jvm.Cond.methodLink "java/lang/RuntimeException" (7 : Nat) ({ cls := "java/lang/Exception", name := "<init>", desc := "(Ljava/lang/String;)V" } : Jvm.MethodName)) ∈ Gall := gw 234 (by decide +kernel) (by decide +kernel)
theorem tw_195 : (Jvm.Cond.instanceMethod ({ cls := "java/lang/Exception", name := "<init>", desc := "(Ljava/lang/String;)V" } : Jvm.MethodName)) ∈ Gall := gw 235 (by decide +kernel) (by decide +kernel)
theorem tw_196 : (Jvm.Cond.code ({ cls := "java/lang/Exception", name := "<init>", desc := "(Ljava/lang/String;)V" } : Jvm.MethodName) prog_7_method_2_code (2 : Nat) (Option.none : Option Jvm.ClassFile.FieldType)) ∈ Gall := gw 236 (by decide +kernel) (by decide +kernel)
theorem tw_197 : (Jvm.Cond.methodLink "java/lang/Exception" (7 : Nat) ({ cls := "java/lang/Throwable", name := "<init>", desc := "(Ljava/lang/String;)V" } : Jvm.MethodName)) ∈ Gall := gw 237 (by decide +kernel) (by decide +kernel)
theorem tw_198 : (Jvm.Cond.instanceMethod ({ cls := "java/lang/Throwable", name := "<init>", desc := "(Ljava/lang/String;)V" } : Jvm.MethodName)) ∈ Gall := gw 238 (by decide +kernel) (by decide +kernel)
theorem tw_199 : (Jvm.Cond.code ({ cls := "java/lang/Throwable", name := "<init>", desc := "(Ljava/lang/String;)V" } : Jvm.MethodName) prog_14_method_2_code (2 : Nat) (Option.none : Option Jvm.ClassFile.FieldType)) ∈ Gall := gw 239 (by decide +kernel) (by decide +kernel)
theorem tw_201 : (Jvm.Cond.fieldLink "java/lang/Throwable" (31 : Nat) "java/lang/Throwable" "detailMessage" "Ljava/lang/String;") ∈ Gall := gw 241 (by decide +kernel) (by decide +kernel)
theorem tw_202 : (Jvm.Cond.fieldLink "java/lang/Throwable" (7 : Nat) "java/lang/Throwable" "cause" "Ljava/lang/Throwable;") ∈ Gall := gw 242 (by decide +kernel) (by decide +kernel)
theorem tw_203 : (Jvm.Cond.fieldLink "java/lang/Throwable" (17 : Nat) "java/lang/Throwable" "stackTrace" "[Ljava/lang/StackTraceElement;") ∈ Gall := gw 243 (by decide +kernel) (by decide +kernel)
theorem tw_204 : (Jvm.Cond.fieldLink "java/lang/Throwable" (24 : Nat) "java/lang/Throwable" "suppressedExceptions" "Ljava/util/List;") ∈ Gall := gw 244 (by decide +kernel) (by decide +kernel)
theorem tw_209 : (Jvm.Cond.lays "java/lang/UnsupportedOperationException" "java/lang/Throwable" "depth" "I") ∈ Gall := gw 249 (by decide +kernel) (by decide +kernel)
theorem tw_213 : (Jvm.Cond.arrayClass Jvm.ClassFile.FieldType.byte) ∈ Gall := gw 253 (by decide +kernel) (by decide +kernel)
theorem tw_215 : (Jvm.Cond.instanceMethod ({ cls := "PackSeeds$Pattern", name := "<init>", desc := "()V" } : Jvm.MethodName)) ∈ Gall := gw 255 (by decide +kernel) (by decide +kernel)
theorem tw_216 : (Jvm.Cond.code ({ cls := "PackSeeds$Pattern", name := "<init>", desc := "()V" } : Jvm.MethodName) prog_3_method_1_code (1 : Nat) (Option.none : Option Jvm.ClassFile.FieldType)) ∈ Gall := gw 256 (by decide +kernel) (by decide +kernel)
theorem tw_217 : (Jvm.Cond.methodLink "PackSeeds$Pattern" (3 : Nat) ({ cls := "java/lang/Object", name := "<init>", desc := "()V" } : Jvm.MethodName)) ∈ Gall := gw 257 (by decide +kernel) (by decide +kernel)
theorem tw_218 : (Jvm.Cond.fieldLink "PackSeeds$Pattern" (9 : Nat) "PackSeeds$Pattern" "cared" "I") ∈ Gall := gw 258 (by decide +kernel) (by decide +kernel)
theorem tw_220 : (Jvm.Cond.fieldLink "PackSeeds$Pattern" (15 : Nat) "PackSeeds$Pattern" "values" "I") ∈ Gall := gw 260 (by decide +kernel) (by decide +kernel)
theorem tw_222 : (Jvm.Cond.fieldLink "PackSeeds$Pattern" (18 : Nat) "PackSeeds$Pattern" "masked" "I") ∈ Gall := gw 262 (by decide +kernel) (by decide +kernel)
theorem tw_224 : (Jvm.Cond.fieldLink "PackSeeds$Pattern" (21 : Nat) "PackSeeds$Pattern" "faults" "I") ∈ Gall := gw 264 (by decide +kernel) (by decide +kernel)
theorem tw_226 : (Jvm.Cond.fieldLink "PackSeeds$Pattern" (24 : Nat) "PackSeeds$Pattern" "seed" "I") ∈ Gall := gw 266 (by decide +kernel) (by decide +kernel)
theorem tw_228 : (Jvm.Cond.fieldLink "PackSeeds$Pattern" (27 : Nat) "PackSeeds$Pattern" "gone" "Z") ∈ Gall := gw 268 (by decide +kernel) (by decide +kernel)
theorem tw_230 : (Jvm.Cond.lays "PackSeeds$Pattern" "PackSeeds$Pattern" "cared" "I") ∈ Gall := gw 270 (by decide +kernel) (by decide +kernel)
theorem tw_232 : (Jvm.Cond.lays "PackSeeds$Pattern" "PackSeeds$Pattern" "values" "I") ∈ Gall := gw 272 (by decide +kernel) (by decide +kernel)
theorem tw_234 : (Jvm.Cond.lays "PackSeeds$Pattern" "PackSeeds$Pattern" "masked" "I") ∈ Gall := gw 274 (by decide +kernel) (by decide +kernel)
theorem tw_236 : (Jvm.Cond.lays "PackSeeds$Pattern" "PackSeeds$Pattern" "faults" "I") ∈ Gall := gw 276 (by decide +kernel) (by decide +kernel)
theorem tw_238 : (Jvm.Cond.lays "PackSeeds$Pattern" "PackSeeds$Pattern" "seed" "I") ∈ Gall := gw 278 (by decide +kernel) (by decide +kernel)
theorem tw_240 : (Jvm.Cond.lays "PackSeeds$Pattern" "PackSeeds$Pattern" "gone" "Z") ∈ Gall := gw 280 (by decide +kernel) (by decide +kernel)
theorem tw_243 : (Jvm.Cond.methodLink "PackSeedsLaw" (90 : Nat) ({ cls := "PackSeedsLaw", name := "care", desc := "(LPackSeeds;IIII[J)I" } : Jvm.MethodName)) ∈ Gall := gw 283 (by decide +kernel) (by decide +kernel)
theorem tw_244 : (Jvm.Cond.static ({ cls := "PackSeedsLaw", name := "care", desc := "(LPackSeeds;IIII[J)I" } : Jvm.MethodName)) ∈ Gall := gw 284 (by decide +kernel) (by decide +kernel)
theorem tw_245 : (Jvm.Cond.codeWith ({ cls := "PackSeedsLaw", name := "care", desc := "(LPackSeeds;IIII[J)I" } : Jvm.MethodName) method_4_code (7 : Nat) (Option.some Jvm.ClassFile.FieldType.int) [((0 : Nat), (21 : Nat), (24 : Nat), (19 : Nat)), ((0 : Nat), (21 : Nat), (28 : Nat), (21 : Nat))]) ∈ Gall := gw 285 (by decide +kernel) (by decide +kernel)
theorem tw_246 : (Jvm.Cond.classLink "PackSeedsLaw" (19 : Nat) "java/lang/IndexOutOfBoundsException") ∈ Gall := gw 286 (by decide +kernel) (by decide +kernel)
theorem tw_247 : (Jvm.Cond.classLink "PackSeedsLaw" (21 : Nat) "java/lang/IllegalArgumentException") ∈ Gall := gw 287 (by decide +kernel) (by decide +kernel)
theorem tw_248 : (Jvm.Cond.methodLink "PackSeedsLaw" (15 : Nat) ({ cls := "PackSeeds", name := "care", desc := "(IIII)Z" } : Jvm.MethodName)) ∈ Gall := gw 288 (by decide +kernel) (by decide +kernel)
theorem tw_249 : (Jvm.Cond.instanceMethod ({ cls := "PackSeeds", name := "care", desc := "(IIII)Z" } : Jvm.MethodName)) ∈ Gall := gw 289 (by decide +kernel) (by decide +kernel)
theorem tw_250 : (Jvm.Cond.selects "PackSeeds" ({ cls := "PackSeeds", name := "care", desc := "(IIII)Z" } : Jvm.MethodName) ({ cls := "PackSeeds", name := "care", desc := "(IIII)Z" } : Jvm.MethodName)) ∈ Gall := gw 290 (by decide +kernel) (by decide +kernel)
theorem tw_251 : (Jvm.Cond.code ({ cls := "PackSeeds", name := "care", desc := "(IIII)Z" } : Jvm.MethodName) prog_1_method_3_code (7 : Nat) (Option.some Jvm.ClassFile.FieldType.boolean)) ∈ Gall := gw 291 (by decide +kernel) (by decide +kernel)
theorem tw_252 : (Jvm.Cond.methodLink "PackSeeds" (48 : Nat) ({ cls := "PackSeeds", name := "present", desc := "(I)LPackSeeds$Pattern;" } : Jvm.MethodName)) ∈ Gall := gw 292 (by decide +kernel) (by decide +kernel)
theorem tw_254 : (Jvm.Cond.instanceMethod ({ cls := "PackSeeds", name := "present", desc := "(I)LPackSeeds$Pattern;" } : Jvm.MethodName)) ∈ Gall := gw 294 (by decide +kernel) (by decide +kernel)
theorem tw_255 : (Jvm.Cond.code ({ cls := "PackSeeds", name := "present", desc := "(I)LPackSeeds$Pattern;" } : Jvm.MethodName) prog_1_method_21_code (3 : Nat) (Option.some (Jvm.ClassFile.FieldType.object "PackSeeds$Pattern"))) ∈ Gall := gw 295 (by decide +kernel) (by decide +kernel)
theorem tw_256 : (Jvm.Cond.classLink "PackSeeds" (88 : Nat) "java/lang/IndexOutOfBoundsException") ∈ Gall := gw 296 (by decide +kernel) (by decide +kernel)
theorem tw_257 : (Jvm.Cond.instantiable "java/lang/IndexOutOfBoundsException" (6 : Nat)) ∈ Gall := gw 297 (by decide +kernel) (by decide +kernel)
theorem tw_259 : (Jvm.Cond.selects "java/lang/IndexOutOfBoundsException" ({ cls := "java/lang/Throwable", name := "fillInStackTrace", desc := "(I)Ljava/lang/Throwable;" } : Jvm.MethodName) ({ cls := "java/lang/Throwable", name := "fillInStackTrace", desc := "(I)Ljava/lang/Throwable;" } : Jvm.MethodName)) ∈ Gall := gw 299 (by decide +kernel) (by decide +kernel)
theorem tw_260 : (Jvm.Cond.lays "java/lang/IndexOutOfBoundsException" "java/lang/Throwable" "cause" "Ljava/lang/Throwable;") ∈ Gall := gw 300 (by decide +kernel) (by decide +kernel)
theorem tw_261 : (Jvm.Cond.lays "java/lang/IndexOutOfBoundsException" "java/lang/Throwable" "stackTrace" "[Ljava/lang/StackTraceElement;") ∈ Gall := gw 301 (by decide +kernel) (by decide +kernel)
theorem tw_262 : (Jvm.Cond.lays "java/lang/IndexOutOfBoundsException" "java/lang/Throwable" "suppressedExceptions" "Ljava/util/List;") ∈ Gall := gw 302 (by decide +kernel) (by decide +kernel)
theorem tw_263 : (Jvm.Cond.lays "java/lang/IndexOutOfBoundsException" "java/lang/Throwable" "detailMessage" "Ljava/lang/String;") ∈ Gall := gw 303 (by decide +kernel) (by decide +kernel)
theorem tw_264 : (Jvm.Cond.lays "java/lang/IndexOutOfBoundsException" "java/lang/Throwable" "backtrace" "Ljava/lang/Object;") ∈ Gall := gw 304 (by decide +kernel) (by decide +kernel)
theorem tw_266 : (Jvm.Cond.methodLink "PackSeeds" (92 : Nat) ({ cls := "java/lang/IndexOutOfBoundsException", name := "<init>", desc := "(Ljava/lang/String;)V" } : Jvm.MethodName)) ∈ Gall := gw 306 (by decide +kernel) (by decide +kernel)
theorem tw_267 : (Jvm.Cond.instanceMethod ({ cls := "java/lang/IndexOutOfBoundsException", name := "<init>", desc := "(Ljava/lang/String;)V" } : Jvm.MethodName)) ∈ Gall := gw 307 (by decide +kernel) (by decide +kernel)
theorem tw_268 : (Jvm.Cond.code ({ cls := "java/lang/IndexOutOfBoundsException", name := "<init>", desc := "(Ljava/lang/String;)V" } : Jvm.MethodName) prog_9_method_2_code (2 : Nat) (Option.none : Option Jvm.ClassFile.FieldType)) ∈ Gall := gw 308 (by decide +kernel) (by decide +kernel)
theorem tw_269 : (Jvm.Cond.methodLink "java/lang/IndexOutOfBoundsException" (7 : Nat) ({ cls := "java/lang/RuntimeException", name := "<init>", desc := "(Ljava/lang/String;)V" } : Jvm.MethodName)) ∈ Gall := gw 309 (by decide +kernel) (by decide +kernel)
theorem tw_270 : (Jvm.Cond.lays "java/lang/IndexOutOfBoundsException" "java/lang/Throwable" "depth" "I") ∈ Gall := gw 310 (by decide +kernel) (by decide +kernel)
theorem tw_272 : (Jvm.Cond.methodLink "PackSeeds" (52 : Nat) ({ cls := "PackSeeds", name := "existingPlace", desc := "(II)I" } : Jvm.MethodName)) ∈ Gall := gw 312 (by decide +kernel) (by decide +kernel)
theorem tw_274 : (Jvm.Cond.instanceMethod ({ cls := "PackSeeds", name := "existingPlace", desc := "(II)I" } : Jvm.MethodName)) ∈ Gall := gw 314 (by decide +kernel) (by decide +kernel)
theorem tw_275 : (Jvm.Cond.code ({ cls := "PackSeeds", name := "existingPlace", desc := "(II)I" } : Jvm.MethodName) prog_1_method_22_code (3 : Nat) (Option.some Jvm.ClassFile.FieldType.int)) ∈ Gall := gw 315 (by decide +kernel) (by decide +kernel)
theorem tw_277 : (Jvm.Cond.methodLink "PackSeeds" (168 : Nat) ({ cls := "PackSeeds", name := "place", desc := "(II)I" } : Jvm.MethodName)) ∈ Gall := gw 317 (by decide +kernel) (by decide +kernel)
theorem tw_278 : (Jvm.Cond.static ({ cls := "PackSeeds", name := "place", desc := "(II)I" } : Jvm.MethodName)) ∈ Gall := gw 318 (by decide +kernel) (by decide +kernel)
theorem tw_279 : (Jvm.Cond.code ({ cls := "PackSeeds", name := "place", desc := "(II)I" } : Jvm.MethodName) prog_1_method_24_code (2 : Nat) (Option.some Jvm.ClassFile.FieldType.int)) ∈ Gall := gw 319 (by decide +kernel) (by decide +kernel)
theorem tw_280 : (Jvm.Cond.classLink "PackSeeds" (56 : Nat) "java/lang/IllegalArgumentException") ∈ Gall := gw 320 (by decide +kernel) (by decide +kernel)
theorem tw_281 : (Jvm.Cond.instantiable "java/lang/IllegalArgumentException" (6 : Nat)) ∈ Gall := gw 321 (by decide +kernel) (by decide +kernel)
theorem tw_283 : (Jvm.Cond.selects "java/lang/IllegalArgumentException" ({ cls := "java/lang/Throwable", name := "fillInStackTrace", desc := "(I)Ljava/lang/Throwable;" } : Jvm.MethodName) ({ cls := "java/lang/Throwable", name := "fillInStackTrace", desc := "(I)Ljava/lang/Throwable;" } : Jvm.MethodName)) ∈ Gall := gw 323 (by decide +kernel) (by decide +kernel)
theorem tw_284 : (Jvm.Cond.lays "java/lang/IllegalArgumentException" "java/lang/Throwable" "cause" "Ljava/lang/Throwable;") ∈ Gall := gw 324 (by decide +kernel) (by decide +kernel)
theorem tw_285 : (Jvm.Cond.lays "java/lang/IllegalArgumentException" "java/lang/Throwable" "stackTrace" "[Ljava/lang/StackTraceElement;") ∈ Gall := gw 325 (by decide +kernel) (by decide +kernel)
theorem tw_286 : (Jvm.Cond.lays "java/lang/IllegalArgumentException" "java/lang/Throwable" "suppressedExceptions" "Ljava/util/List;") ∈ Gall := gw 326 (by decide +kernel) (by decide +kernel)
theorem tw_287 : (Jvm.Cond.lays "java/lang/IllegalArgumentException" "java/lang/Throwable" "detailMessage" "Ljava/lang/String;") ∈ Gall := gw 327 (by decide +kernel) (by decide +kernel)
theorem tw_288 : (Jvm.Cond.lays "java/lang/IllegalArgumentException" "java/lang/Throwable" "backtrace" "Ljava/lang/Object;") ∈ Gall := gw 328 (by decide +kernel) (by decide +kernel)
theorem tw_290 : (Jvm.Cond.methodLink "PackSeeds" (60 : Nat) ({ cls := "java/lang/IllegalArgumentException", name := "<init>", desc := "(Ljava/lang/String;)V" } : Jvm.MethodName)) ∈ Gall := gw 330 (by decide +kernel) (by decide +kernel)
theorem tw_291 : (Jvm.Cond.instanceMethod ({ cls := "java/lang/IllegalArgumentException", name := "<init>", desc := "(Ljava/lang/String;)V" } : Jvm.MethodName)) ∈ Gall := gw 331 (by decide +kernel) (by decide +kernel)
theorem tw_292 : (Jvm.Cond.code ({ cls := "java/lang/IllegalArgumentException", name := "<init>", desc := "(Ljava/lang/String;)V" } : Jvm.MethodName) prog_8_method_2_code (2 : Nat) (Option.none : Option Jvm.ClassFile.FieldType)) ∈ Gall := gw 332 (by decide +kernel) (by decide +kernel)
theorem tw_293 : (Jvm.Cond.methodLink "java/lang/IllegalArgumentException" (7 : Nat) ({ cls := "java/lang/RuntimeException", name := "<init>", desc := "(Ljava/lang/String;)V" } : Jvm.MethodName)) ∈ Gall := gw 333 (by decide +kernel) (by decide +kernel)
theorem tw_294 : (Jvm.Cond.lays "java/lang/IllegalArgumentException" "java/lang/Throwable" "depth" "I") ∈ Gall := gw 334 (by decide +kernel) (by decide +kernel)
theorem tw_298 : (Jvm.Cond.instanceMethod ({ cls := "PackSeeds$Pattern", name := "setCare", desc := "(II)Z" } : Jvm.MethodName)) ∈ Gall := gw 338 (by decide +kernel) (by decide +kernel)
theorem tw_299 : (Jvm.Cond.code ({ cls := "PackSeeds$Pattern", name := "setCare", desc := "(II)Z" } : Jvm.MethodName) prog_3_method_3_code (3 : Nat) (Option.some Jvm.ClassFile.FieldType.boolean)) ∈ Gall := gw 339 (by decide +kernel) (by decide +kernel)
theorem tw_300 : (Jvm.Cond.methodLink "PackSeeds$Pattern" (31 : Nat) ({ cls := "PackSeeds$Pattern", name := "careAt", desc := "(I)I" } : Jvm.MethodName)) ∈ Gall := gw 340 (by decide +kernel) (by decide +kernel)
theorem tw_302 : (Jvm.Cond.instanceMethod ({ cls := "PackSeeds$Pattern", name := "careAt", desc := "(I)I" } : Jvm.MethodName)) ∈ Gall := gw 342 (by decide +kernel) (by decide +kernel)
theorem tw_303 : (Jvm.Cond.code ({ cls := "PackSeeds$Pattern", name := "careAt", desc := "(I)I" } : Jvm.MethodName) prog_3_method_2_code (2 : Nat) (Option.some Jvm.ClassFile.FieldType.int)) ∈ Gall := gw 343 (by decide +kernel) (by decide +kernel)
theorem tw_304 : (Jvm.Cond.methodLink "PackSeedsLaw" (98 : Nat) ({ cls := "PackSeedsLaw", name := "degree", desc := "(LPackSeeds;I)I" } : Jvm.MethodName)) ∈ Gall := gw 344 (by decide +kernel) (by decide +kernel)
theorem tw_305 : (Jvm.Cond.static ({ cls := "PackSeedsLaw", name := "degree", desc := "(LPackSeeds;I)I" } : Jvm.MethodName)) ∈ Gall := gw 345 (by decide +kernel) (by decide +kernel)
theorem tw_306 : (Jvm.Cond.codeWith ({ cls := "PackSeedsLaw", name := "degree", desc := "(LPackSeeds;I)I" } : Jvm.MethodName) method_5_code (3 : Nat) (Option.some Jvm.ClassFile.FieldType.int) [((0 : Nat), (5 : Nat), (8 : Nat), (21 : Nat))]) ∈ Gall := gw 346 (by decide +kernel) (by decide +kernel)
theorem tw_307 : (Jvm.Cond.methodLink "PackSeedsLaw" (23 : Nat) ({ cls := "PackSeeds", name := "degree", desc := "(I)V" } : Jvm.MethodName)) ∈ Gall := gw 347 (by decide +kernel) (by decide +kernel)
theorem tw_308 : (Jvm.Cond.instanceMethod ({ cls := "PackSeeds", name := "degree", desc := "(I)V" } : Jvm.MethodName)) ∈ Gall := gw 348 (by decide +kernel) (by decide +kernel)
theorem tw_309 : (Jvm.Cond.selects "PackSeeds" ({ cls := "PackSeeds", name := "degree", desc := "(I)V" } : Jvm.MethodName) ({ cls := "PackSeeds", name := "degree", desc := "(I)V" } : Jvm.MethodName)) ∈ Gall := gw 349 (by decide +kernel) (by decide +kernel)
theorem tw_310 : (Jvm.Cond.code ({ cls := "PackSeeds", name := "degree", desc := "(I)V" } : Jvm.MethodName) prog_1_method_5_code (2 : Nat) (Option.none : Option Jvm.ClassFile.FieldType)) ∈ Gall := gw 350 (by decide +kernel) (by decide +kernel)
theorem tw_314 : (Jvm.Cond.instanceMethod ({ cls := "PackSeeds$Machine", name := "restart", desc := "(I)V" } : Jvm.MethodName)) ∈ Gall := gw 354 (by decide +kernel) (by decide +kernel)
theorem tw_315 : (Jvm.Cond.code ({ cls := "PackSeeds$Machine", name := "restart", desc := "(I)V" } : Jvm.MethodName) prog_2_method_2_code (2 : Nat) (Option.none : Option Jvm.ClassFile.FieldType)) ∈ Gall := gw 355 (by decide +kernel) (by decide +kernel)
theorem tw_316 : (Jvm.Cond.methodLink "PackSeeds" (82 : Nat) ({ cls := "PackSeeds", name := "forgetSeeds", desc := "()V" } : Jvm.MethodName)) ∈ Gall := gw 356 (by decide +kernel) (by decide +kernel)
theorem tw_318 : (Jvm.Cond.instanceMethod ({ cls := "PackSeeds", name := "forgetSeeds", desc := "()V" } : Jvm.MethodName)) ∈ Gall := gw 358 (by decide +kernel) (by decide +kernel)
theorem tw_319 : (Jvm.Cond.code ({ cls := "PackSeeds", name := "forgetSeeds", desc := "()V" } : Jvm.MethodName) prog_1_method_26_code (3 : Nat) (Option.none : Option Jvm.ClassFile.FieldType)) ∈ Gall := gw 359 (by decide +kernel) (by decide +kernel)
theorem tw_320 : (Jvm.Cond.methodLink "PackSeedsLaw" (102 : Nat) ({ cls := "PackSeedsLaw", name := "machine", desc := "(LPackSeeds;IZ[J)I" } : Jvm.MethodName)) ∈ Gall := gw 360 (by decide +kernel) (by decide +kernel)
theorem tw_321 : (Jvm.Cond.static ({ cls := "PackSeedsLaw", name := "machine", desc := "(LPackSeeds;IZ[J)I" } : Jvm.MethodName)) ∈ Gall := gw 361 (by decide +kernel) (by decide +kernel)
theorem tw_322 : (Jvm.Cond.codeWith ({ cls := "PackSeedsLaw", name := "machine", desc := "(LPackSeeds;IZ[J)I" } : Jvm.MethodName) method_6_code (5 : Nat) (Option.some Jvm.ClassFile.FieldType.int) [((0 : Nat), (17 : Nat), (20 : Nat), (19 : Nat)), ((0 : Nat), (17 : Nat), (24 : Nat), (21 : Nat))]) ∈ Gall := gw 362 (by decide +kernel) (by decide +kernel)
theorem tw_323 : (Jvm.Cond.methodLink "PackSeedsLaw" (27 : Nat) ({ cls := "PackSeeds", name := "machine", desc := "(IZ)Z" } : Jvm.MethodName)) ∈ Gall := gw 363 (by decide +kernel) (by decide +kernel)
theorem tw_324 : (Jvm.Cond.instanceMethod ({ cls := "PackSeeds", name := "machine", desc := "(IZ)Z" } : Jvm.MethodName)) ∈ Gall := gw 364 (by decide +kernel) (by decide +kernel)
theorem tw_325 : (Jvm.Cond.selects "PackSeeds" ({ cls := "PackSeeds", name := "machine", desc := "(IZ)Z" } : Jvm.MethodName) ({ cls := "PackSeeds", name := "machine", desc := "(IZ)Z" } : Jvm.MethodName)) ∈ Gall := gw 365 (by decide +kernel) (by decide +kernel)
theorem tw_326 : (Jvm.Cond.code ({ cls := "PackSeeds", name := "machine", desc := "(IZ)Z" } : Jvm.MethodName) prog_1_method_6_code (3 : Nat) (Option.some Jvm.ClassFile.FieldType.boolean)) ∈ Gall := gw 366 (by decide +kernel) (by decide +kernel)
theorem tw_331 : (Jvm.Cond.instanceMethod ({ cls := "PackSeeds$Machine", name := "isTapped", desc := "(I)Z" } : Jvm.MethodName)) ∈ Gall := gw 371 (by decide +kernel) (by decide +kernel)
theorem tw_332 : (Jvm.Cond.code ({ cls := "PackSeeds$Machine", name := "isTapped", desc := "(I)Z" } : Jvm.MethodName) prog_2_method_3_code (2 : Nat) (Option.some Jvm.ClassFile.FieldType.boolean)) ∈ Gall := gw 372 (by decide +kernel) (by decide +kernel)
theorem tw_335 : (Jvm.Cond.instanceMethod ({ cls := "PackSeeds$Machine", name := "turnTap", desc := "(I)V" } : Jvm.MethodName)) ∈ Gall := gw 375 (by decide +kernel) (by decide +kernel)
theorem tw_336 : (Jvm.Cond.code ({ cls := "PackSeeds$Machine", name := "turnTap", desc := "(I)V" } : Jvm.MethodName) prog_2_method_4_code (2 : Nat) (Option.none : Option Jvm.ClassFile.FieldType)) ∈ Gall := gw 376 (by decide +kernel) (by decide +kernel)
theorem tw_337 : (Jvm.Cond.methodLink "PackSeedsLaw" (106 : Nat) ({ cls := "PackSeedsLaw", name := "seed", desc := "(LPackSeeds;I[J)I" } : Jvm.MethodName)) ∈ Gall := gw 377 (by decide +kernel) (by decide +kernel)
theorem tw_338 : (Jvm.Cond.static ({ cls := "PackSeedsLaw", name := "seed", desc := "(LPackSeeds;I[J)I" } : Jvm.MethodName)) ∈ Gall := gw 378 (by decide +kernel) (by decide +kernel)
theorem tw_339 : (Jvm.Cond.codeWith ({ cls := "PackSeedsLaw", name := "seed", desc := "(LPackSeeds;I[J)I" } : Jvm.MethodName) method_7_code (4 : Nat) (Option.some Jvm.ClassFile.FieldType.int) [((0 : Nat), (9 : Nat), (12 : Nat), (19 : Nat))]) ∈ Gall := gw 379 (by decide +kernel) (by decide +kernel)
theorem tw_340 : (Jvm.Cond.methodLink "PackSeedsLaw" (31 : Nat) ({ cls := "PackSeeds", name := "seed", desc := "(I)I" } : Jvm.MethodName)) ∈ Gall := gw 380 (by decide +kernel) (by decide +kernel)
theorem tw_341 : (Jvm.Cond.instanceMethod ({ cls := "PackSeeds", name := "seed", desc := "(I)I" } : Jvm.MethodName)) ∈ Gall := gw 381 (by decide +kernel) (by decide +kernel)
theorem tw_342 : (Jvm.Cond.selects "PackSeeds" ({ cls := "PackSeeds", name := "seed", desc := "(I)I" } : Jvm.MethodName) ({ cls := "PackSeeds", name := "seed", desc := "(I)I" } : Jvm.MethodName)) ∈ Gall := gw 382 (by decide +kernel) (by decide +kernel)
theorem tw_343 : (Jvm.Cond.code ({ cls := "PackSeeds", name := "seed", desc := "(I)I" } : Jvm.MethodName) prog_1_method_7_code (3 : Nat) (Option.some Jvm.ClassFile.FieldType.int)) ∈ Gall := gw 383 (by decide +kernel) (by decide +kernel)
theorem tw_346 : (Jvm.Cond.instanceMethod ({ cls := "PackSeeds$Machine", name := "leastSeed", desc := "(II)I" } : Jvm.MethodName)) ∈ Gall := gw 386 (by decide +kernel) (by decide +kernel)
theorem tw_347 : (Jvm.Cond.code ({ cls := "PackSeeds$Machine", name := "leastSeed", desc := "(II)I" } : Jvm.MethodName) prog_2_method_10_code (5 : Nat) (Option.some Jvm.ClassFile.FieldType.int)) ∈ Gall := gw 387 (by decide +kernel) (by decide +kernel)
theorem tw_348 : (Jvm.Cond.methodLink "PackSeeds$Machine" (50 : Nat) ({ cls := "PackSeeds$Machine", name := "make", desc := "(I)I" } : Jvm.MethodName)) ∈ Gall := gw 388 (by decide +kernel) (by decide +kernel)
theorem tw_350 : (Jvm.Cond.instanceMethod ({ cls := "PackSeeds$Machine", name := "make", desc := "(I)I" } : Jvm.MethodName)) ∈ Gall := gw 390 (by decide +kernel) (by decide +kernel)
theorem tw_351 : (Jvm.Cond.code ({ cls := "PackSeeds$Machine", name := "make", desc := "(I)I" } : Jvm.MethodName) prog_2_method_7_code (6 : Nat) (Option.some Jvm.ClassFile.FieldType.int)) ∈ Gall := gw 391 (by decide +kernel) (by decide +kernel)
theorem tw_352 : (Jvm.Cond.methodLink "PackSeeds$Machine" (40 : Nat) ({ cls := "PackSeeds$Machine", name := "stageAround", desc := "(I)I" } : Jvm.MethodName)) ∈ Gall := gw 392 (by decide +kernel) (by decide +kernel)
theorem tw_354 : (Jvm.Cond.instanceMethod ({ cls := "PackSeeds$Machine", name := "stageAround", desc := "(I)I" } : Jvm.MethodName)) ∈ Gall := gw 394 (by decide +kernel) (by decide +kernel)
theorem tw_355 : (Jvm.Cond.code ({ cls := "PackSeeds$Machine", name := "stageAround", desc := "(I)I" } : Jvm.MethodName) prog_2_method_6_code (2 : Nat) (Option.some Jvm.ClassFile.FieldType.int)) ∈ Gall := gw 395 (by decide +kernel) (by decide +kernel)
theorem tw_357 : (Jvm.Cond.methodLink "PackSeeds$Machine" (53 : Nat) ({ cls := "PackSeeds$Machine", name := "row", desc := "(II)J" } : Jvm.MethodName)) ∈ Gall := gw 397 (by decide +kernel) (by decide +kernel)
theorem tw_358 : (Jvm.Cond.static ({ cls := "PackSeeds$Machine", name := "row", desc := "(II)J" } : Jvm.MethodName)) ∈ Gall := gw 398 (by decide +kernel) (by decide +kernel)
theorem tw_359 : (Jvm.Cond.code ({ cls := "PackSeeds$Machine", name := "row", desc := "(II)J" } : Jvm.MethodName) prog_2_method_11_code (2 : Nat) (Option.some Jvm.ClassFile.FieldType.long)) ∈ Gall := gw 399 (by decide +kernel) (by decide +kernel)
theorem tw_360 : (Jvm.Cond.methodLink "PackSeeds$Machine" (57 : Nat) ({ cls := "PackSeeds$Machine", name := "reduced", desc := "(J)J" } : Jvm.MethodName)) ∈ Gall := gw 400 (by decide +kernel) (by decide +kernel)
theorem tw_362 : (Jvm.Cond.instanceMethod ({ cls := "PackSeeds$Machine", name := "reduced", desc := "(J)J" } : Jvm.MethodName)) ∈ Gall := gw 402 (by decide +kernel) (by decide +kernel)
theorem tw_363 : (Jvm.Cond.code ({ cls := "PackSeeds$Machine", name := "reduced", desc := "(J)J" } : Jvm.MethodName) prog_2_method_13_code (6 : Nat) (Option.some Jvm.ClassFile.FieldType.long)) ∈ Gall := gw 403 (by decide +kernel) (by decide +kernel)
theorem tw_364 : (Jvm.Cond.methodLink "PackSeeds$Machine" (61 : Nat) ({ cls := "PackSeeds$Machine", name := "keep", desc := "(J)V" } : Jvm.MethodName)) ∈ Gall := gw 404 (by decide +kernel) (by decide +kernel)
theorem tw_366 : (Jvm.Cond.instanceMethod ({ cls := "PackSeeds$Machine", name := "keep", desc := "(J)V" } : Jvm.MethodName)) ∈ Gall := gw 406 (by decide +kernel) (by decide +kernel)
theorem tw_367 : (Jvm.Cond.code ({ cls := "PackSeeds$Machine", name := "keep", desc := "(J)V" } : Jvm.MethodName) prog_2_method_14_code (4 : Nat) (Option.none : Option Jvm.ClassFile.FieldType)) ∈ Gall := gw 407 (by decide +kernel) (by decide +kernel)
theorem tw_368 : (Jvm.Cond.methodLink "PackSeeds$Machine" (65 : Nat) ({ cls := "PackSeeds$Machine", name := "cellsOf", desc := "(J)J" } : Jvm.MethodName)) ∈ Gall := gw 408 (by decide +kernel) (by decide +kernel)
theorem tw_369 : (Jvm.Cond.static ({ cls := "PackSeeds$Machine", name := "cellsOf", desc := "(J)J" } : Jvm.MethodName)) ∈ Gall := gw 409 (by decide +kernel) (by decide +kernel)
theorem tw_370 : (Jvm.Cond.code ({ cls := "PackSeeds$Machine", name := "cellsOf", desc := "(J)J" } : Jvm.MethodName) prog_2_method_12_code (2 : Nat) (Option.some Jvm.ClassFile.FieldType.long)) ∈ Gall := gw 410 (by decide +kernel) (by decide +kernel)
theorem tw_371 : (Jvm.Cond.methodLink "PackSeedsLaw" (110 : Nat) ({ cls := "PackSeedsLaw", name := "seedOf", desc := "(LPackSeeds;I[J)I" } : Jvm.MethodName)) ∈ Gall := gw 411 (by decide +kernel) (by decide +kernel)
theorem tw_372 : (Jvm.Cond.static ({ cls := "PackSeedsLaw", name := "seedOf", desc := "(LPackSeeds;I[J)I" } : Jvm.MethodName)) ∈ Gall := gw 412 (by decide +kernel) (by decide +kernel)
theorem tw_373 : (Jvm.Cond.codeWith ({ cls := "PackSeedsLaw", name := "seedOf", desc := "(LPackSeeds;I[J)I" } : Jvm.MethodName) method_8_code (4 : Nat) (Option.some Jvm.ClassFile.FieldType.int) [((0 : Nat), (9 : Nat), (12 : Nat), (19 : Nat))]) ∈ Gall := gw 413 (by decide +kernel) (by decide +kernel)
theorem tw_374 : (Jvm.Cond.methodLink "PackSeedsLaw" (35 : Nat) ({ cls := "PackSeeds", name := "seedOf", desc := "(I)I" } : Jvm.MethodName)) ∈ Gall := gw 414 (by decide +kernel) (by decide +kernel)
theorem tw_375 : (Jvm.Cond.instanceMethod ({ cls := "PackSeeds", name := "seedOf", desc := "(I)I" } : Jvm.MethodName)) ∈ Gall := gw 415 (by decide +kernel) (by decide +kernel)
theorem tw_376 : (Jvm.Cond.selects "PackSeeds" ({ cls := "PackSeeds", name := "seedOf", desc := "(I)I" } : Jvm.MethodName) ({ cls := "PackSeeds", name := "seedOf", desc := "(I)I" } : Jvm.MethodName)) ∈ Gall := gw 416 (by decide +kernel) (by decide +kernel)
theorem tw_377 : (Jvm.Cond.code ({ cls := "PackSeeds", name := "seedOf", desc := "(I)I" } : Jvm.MethodName) prog_1_method_8_code (2 : Nat) (Option.some Jvm.ClassFile.FieldType.int)) ∈ Gall := gw 417 (by decide +kernel) (by decide +kernel)
theorem tw_378 : (Jvm.Cond.methodLink "PackSeedsLaw" (113 : Nat) ({ cls := "PackSeedsLaw", name := "bit", desc := "(LPackSeeds;III[J)I" } : Jvm.MethodName)) ∈ Gall := gw 418 (by decide +kernel) (by decide +kernel)
theorem tw_379 : (Jvm.Cond.static ({ cls := "PackSeedsLaw", name := "bit", desc := "(LPackSeeds;III[J)I" } : Jvm.MethodName)) ∈ Gall := gw 419 (by decide +kernel) (by decide +kernel)
theorem tw_380 : (Jvm.Cond.codeWith ({ cls := "PackSeedsLaw", name := "bit", desc := "(LPackSeeds;III[J)I" } : Jvm.MethodName) method_9_code (6 : Nat) (Option.some Jvm.ClassFile.FieldType.int) [((0 : Nat), (12 : Nat), (15 : Nat), (19 : Nat))]) ∈ Gall := gw 420 (by decide +kernel) (by decide +kernel)
theorem tw_381 : (Jvm.Cond.methodLink "PackSeedsLaw" (38 : Nat) ({ cls := "PackSeeds", name := "bit", desc := "(III)I" } : Jvm.MethodName)) ∈ Gall := gw 421 (by decide +kernel) (by decide +kernel)
theorem tw_382 : (Jvm.Cond.instanceMethod ({ cls := "PackSeeds", name := "bit", desc := "(III)I" } : Jvm.MethodName)) ∈ Gall := gw 422 (by decide +kernel) (by decide +kernel)
theorem tw_383 : (Jvm.Cond.selects "PackSeeds" ({ cls := "PackSeeds", name := "bit", desc := "(III)I" } : Jvm.MethodName) ({ cls := "PackSeeds", name := "bit", desc := "(III)I" } : Jvm.MethodName)) ∈ Gall := gw 423 (by decide +kernel) (by decide +kernel)
theorem tw_384 : (Jvm.Cond.code ({ cls := "PackSeeds", name := "bit", desc := "(III)I" } : Jvm.MethodName) prog_1_method_9_code (6 : Nat) (Option.some Jvm.ClassFile.FieldType.int)) ∈ Gall := gw 424 (by decide +kernel) (by decide +kernel)
theorem tw_385 : (Jvm.Cond.methodLink "PackSeeds" (114 : Nat) ({ cls := "PackSeeds", name := "bitsOf", desc := "(LPackSeeds$Pattern;)I" } : Jvm.MethodName)) ∈ Gall := gw 425 (by decide +kernel) (by decide +kernel)
theorem tw_387 : (Jvm.Cond.instanceMethod ({ cls := "PackSeeds", name := "bitsOf", desc := "(LPackSeeds$Pattern;)I" } : Jvm.MethodName)) ∈ Gall := gw 427 (by decide +kernel) (by decide +kernel)
theorem tw_388 : (Jvm.Cond.code ({ cls := "PackSeeds", name := "bitsOf", desc := "(LPackSeeds$Pattern;)I" } : Jvm.MethodName) prog_1_method_31_code (2 : Nat) (Option.some Jvm.ClassFile.FieldType.int)) ∈ Gall := gw 428 (by decide +kernel) (by decide +kernel)
theorem tw_390 : (Jvm.Cond.methodLink "PackSeeds" (201 : Nat) ({ cls := "PackSeeds", name := "filledFromNearest", desc := "(LPackSeeds$Pattern;)I" } : Jvm.MethodName)) ∈ Gall := gw 430 (by decide +kernel) (by decide +kernel)
theorem tw_392 : (Jvm.Cond.instanceMethod ({ cls := "PackSeeds", name := "filledFromNearest", desc := "(LPackSeeds$Pattern;)I" } : Jvm.MethodName)) ∈ Gall := gw 432 (by decide +kernel) (by decide +kernel)
theorem tw_393 : (Jvm.Cond.code ({ cls := "PackSeeds", name := "filledFromNearest", desc := "(LPackSeeds$Pattern;)I" } : Jvm.MethodName) prog_1_method_32_code (5 : Nat) (Option.some Jvm.ClassFile.FieldType.int)) ∈ Gall := gw 433 (by decide +kernel) (by decide +kernel)
theorem tw_394 : (Jvm.Cond.methodLink "PackSeeds" (204 : Nat) ({ cls := "PackSeeds", name := "nearestCare", desc := "(LPackSeeds$Pattern;II)I" } : Jvm.MethodName)) ∈ Gall := gw 434 (by decide +kernel) (by decide +kernel)
theorem tw_396 : (Jvm.Cond.instanceMethod ({ cls := "PackSeeds", name := "nearestCare", desc := "(LPackSeeds$Pattern;II)I" } : Jvm.MethodName)) ∈ Gall := gw 436 (by decide +kernel) (by decide +kernel)
theorem tw_397 : (Jvm.Cond.code ({ cls := "PackSeeds", name := "nearestCare", desc := "(LPackSeeds$Pattern;II)I" } : Jvm.MethodName) prog_1_method_33_code (6 : Nat) (Option.some Jvm.ClassFile.FieldType.int)) ∈ Gall := gw 437 (by decide +kernel) (by decide +kernel)
theorem tw_399 : (Jvm.Cond.methodLink "PackSeedsLaw" (117 : Nat) ({ cls := "PackSeedsLaw", name := "found", desc := "(LPackSeeds;II[J)I" } : Jvm.MethodName)) ∈ Gall := gw 439 (by decide +kernel) (by decide +kernel)
theorem tw_400 : (Jvm.Cond.static ({ cls := "PackSeedsLaw", name := "found", desc := "(LPackSeeds;II[J)I" } : Jvm.MethodName)) ∈ Gall := gw 440 (by decide +kernel) (by decide +kernel)
theorem tw_401 : (Jvm.Cond.codeWith ({ cls := "PackSeedsLaw", name := "found", desc := "(LPackSeeds;II[J)I" } : Jvm.MethodName) method_10_code (5 : Nat) (Option.some Jvm.ClassFile.FieldType.int) [((0 : Nat), (17 : Nat), (20 : Nat), (19 : Nat))]) ∈ Gall := gw 441 (by decide +kernel) (by decide +kernel)
theorem tw_402 : (Jvm.Cond.methodLink "PackSeedsLaw" (42 : Nat) ({ cls := "PackSeeds", name := "found", desc := "(II)Z" } : Jvm.MethodName)) ∈ Gall := gw 442 (by decide +kernel) (by decide +kernel)
theorem tw_403 : (Jvm.Cond.instanceMethod ({ cls := "PackSeeds", name := "found", desc := "(II)Z" } : Jvm.MethodName)) ∈ Gall := gw 443 (by decide +kernel) (by decide +kernel)
theorem tw_404 : (Jvm.Cond.selects "PackSeeds" ({ cls := "PackSeeds", name := "found", desc := "(II)Z" } : Jvm.MethodName) ({ cls := "PackSeeds", name := "found", desc := "(II)Z" } : Jvm.MethodName)) ∈ Gall := gw 444 (by decide +kernel) (by decide +kernel)
theorem tw_405 : (Jvm.Cond.code ({ cls := "PackSeeds", name := "found", desc := "(II)Z" } : Jvm.MethodName) prog_1_method_10_code (6 : Nat) (Option.some Jvm.ClassFile.FieldType.boolean)) ∈ Gall := gw 445 (by decide +kernel) (by decide +kernel)
theorem tw_406 : (Jvm.Cond.methodLink "PackSeeds" (118 : Nat) ({ cls := "PackSeeds", name := "existingFault", desc := "(I)I" } : Jvm.MethodName)) ∈ Gall := gw 446 (by decide +kernel) (by decide +kernel)
theorem tw_407 : (Jvm.Cond.static ({ cls := "PackSeeds", name := "existingFault", desc := "(I)I" } : Jvm.MethodName)) ∈ Gall := gw 447 (by decide +kernel) (by decide +kernel)
theorem tw_408 : (Jvm.Cond.code ({ cls := "PackSeeds", name := "existingFault", desc := "(I)I" } : Jvm.MethodName) prog_1_method_23_code (1 : Nat) (Option.some Jvm.ClassFile.FieldType.int)) ∈ Gall := gw 448 (by decide +kernel) (by decide +kernel)
theorem tw_410 : (Jvm.Cond.methodLink "PackSeedsLaw" (125 : Nat) ({ cls := "PackSeedsLaw", name := "finders", desc := "(LPackSeeds;I[J)I" } : Jvm.MethodName)) ∈ Gall := gw 450 (by decide +kernel) (by decide +kernel)
theorem tw_411 : (Jvm.Cond.static ({ cls := "PackSeedsLaw", name := "finders", desc := "(LPackSeeds;I[J)I" } : Jvm.MethodName)) ∈ Gall := gw 451 (by decide +kernel) (by decide +kernel)
theorem tw_412 : (Jvm.Cond.codeWith ({ cls := "PackSeedsLaw", name := "finders", desc := "(LPackSeeds;I[J)I" } : Jvm.MethodName) method_11_code (4 : Nat) (Option.some Jvm.ClassFile.FieldType.int) [((0 : Nat), (9 : Nat), (12 : Nat), (19 : Nat))]) ∈ Gall := gw 452 (by decide +kernel) (by decide +kernel)
theorem tw_413 : (Jvm.Cond.methodLink "PackSeedsLaw" (46 : Nat) ({ cls := "PackSeeds", name := "finders", desc := "(I)I" } : Jvm.MethodName)) ∈ Gall := gw 453 (by decide +kernel) (by decide +kernel)
theorem tw_414 : (Jvm.Cond.instanceMethod ({ cls := "PackSeeds", name := "finders", desc := "(I)I" } : Jvm.MethodName)) ∈ Gall := gw 454 (by decide +kernel) (by decide +kernel)
theorem tw_415 : (Jvm.Cond.selects "PackSeeds" ({ cls := "PackSeeds", name := "finders", desc := "(I)I" } : Jvm.MethodName) ({ cls := "PackSeeds", name := "finders", desc := "(I)I" } : Jvm.MethodName)) ∈ Gall := gw 455 (by decide +kernel) (by decide +kernel)
theorem tw_416 : (Jvm.Cond.code ({ cls := "PackSeeds", name := "finders", desc := "(I)I" } : Jvm.MethodName) prog_1_method_12_code (6 : Nat) (Option.some Jvm.ClassFile.FieldType.int)) ∈ Gall := gw 456 (by decide +kernel) (by decide +kernel)
theorem tw_417 : (Jvm.Cond.methodLink "PackSeedsLaw" (128 : Nat) ({ cls := "PackSeedsLaw", name := "mask", desc := "(LPackSeeds;III[J)I" } : Jvm.MethodName)) ∈ Gall := gw 457 (by decide +kernel) (by decide +kernel)
theorem tw_418 : (Jvm.Cond.static ({ cls := "PackSeedsLaw", name := "mask", desc := "(LPackSeeds;III[J)I" } : Jvm.MethodName)) ∈ Gall := gw 458 (by decide +kernel) (by decide +kernel)
theorem tw_419 : (Jvm.Cond.codeWith ({ cls := "PackSeedsLaw", name := "mask", desc := "(LPackSeeds;III[J)I" } : Jvm.MethodName) method_12_code (6 : Nat) (Option.some Jvm.ClassFile.FieldType.int) [((0 : Nat), (19 : Nat), (22 : Nat), (19 : Nat))]) ∈ Gall := gw 459 (by decide +kernel) (by decide +kernel)
theorem tw_420 : (Jvm.Cond.methodLink "PackSeedsLaw" (49 : Nat) ({ cls := "PackSeeds", name := "mask", desc := "(III)Z" } : Jvm.MethodName)) ∈ Gall := gw 460 (by decide +kernel) (by decide +kernel)
theorem tw_421 : (Jvm.Cond.instanceMethod ({ cls := "PackSeeds", name := "mask", desc := "(III)Z" } : Jvm.MethodName)) ∈ Gall := gw 461 (by decide +kernel) (by decide +kernel)
theorem tw_422 : (Jvm.Cond.selects "PackSeeds" ({ cls := "PackSeeds", name := "mask", desc := "(III)Z" } : Jvm.MethodName) ({ cls := "PackSeeds", name := "mask", desc := "(III)Z" } : Jvm.MethodName)) ∈ Gall := gw 462 (by decide +kernel) (by decide +kernel)
theorem tw_423 : (Jvm.Cond.code ({ cls := "PackSeeds", name := "mask", desc := "(III)Z" } : Jvm.MethodName) prog_1_method_13_code (7 : Nat) (Option.some Jvm.ClassFile.FieldType.boolean)) ∈ Gall := gw 463 (by decide +kernel) (by decide +kernel)
theorem tw_424 : (Jvm.Cond.methodLink "PackSeedsLaw" (131 : Nat) ({ cls := "PackSeedsLaw", name := "signature", desc := "(LPackSeeds;II[J)I" } : Jvm.MethodName)) ∈ Gall := gw 464 (by decide +kernel) (by decide +kernel)
theorem tw_425 : (Jvm.Cond.static ({ cls := "PackSeedsLaw", name := "signature", desc := "(LPackSeeds;II[J)I" } : Jvm.MethodName)) ∈ Gall := gw 465 (by decide +kernel) (by decide +kernel)
theorem tw_426 : (Jvm.Cond.codeWith ({ cls := "PackSeedsLaw", name := "signature", desc := "(LPackSeeds;II[J)I" } : Jvm.MethodName) method_13_code (5 : Nat) (Option.some Jvm.ClassFile.FieldType.int) [((0 : Nat), (9 : Nat), (12 : Nat), (21 : Nat))]) ∈ Gall := gw 466 (by decide +kernel) (by decide +kernel)
theorem tw_427 : (Jvm.Cond.methodLink "PackSeedsLaw" (53 : Nat) ({ cls := "PackSeeds", name := "signature", desc := "(II)J" } : Jvm.MethodName)) ∈ Gall := gw 467 (by decide +kernel) (by decide +kernel)
theorem tw_428 : (Jvm.Cond.instanceMethod ({ cls := "PackSeeds", name := "signature", desc := "(II)J" } : Jvm.MethodName)) ∈ Gall := gw 468 (by decide +kernel) (by decide +kernel)
theorem tw_429 : (Jvm.Cond.selects "PackSeeds" ({ cls := "PackSeeds", name := "signature", desc := "(II)J" } : Jvm.MethodName) ({ cls := "PackSeeds", name := "signature", desc := "(II)J" } : Jvm.MethodName)) ∈ Gall := gw 469 (by decide +kernel) (by decide +kernel)
theorem tw_430 : (Jvm.Cond.code ({ cls := "PackSeeds", name := "signature", desc := "(II)J" } : Jvm.MethodName) prog_1_method_14_code (7 : Nat) (Option.some Jvm.ClassFile.FieldType.long)) ∈ Gall := gw 470 (by decide +kernel) (by decide +kernel)
theorem tw_432 : (Jvm.Cond.methodLink "PackSeeds" (137 : Nat) ({ cls := "java/lang/Math", name := "min", desc := "(II)I" } : Jvm.MethodName)) ∈ Gall := gw 472 (by decide +kernel) (by decide +kernel)
theorem tw_435 : (Jvm.Cond.instanceMethod ({ cls := "PackSeeds$Machine", name := "takeIn", desc := "(II)I" } : Jvm.MethodName)) ∈ Gall := gw 475 (by decide +kernel) (by decide +kernel)
theorem tw_436 : (Jvm.Cond.code ({ cls := "PackSeeds$Machine", name := "takeIn", desc := "(II)I" } : Jvm.MethodName) prog_2_method_8_code (6 : Nat) (Option.some Jvm.ClassFile.FieldType.int)) ∈ Gall := gw 476 (by decide +kernel) (by decide +kernel)
theorem tw_437 : (Jvm.Cond.methodLink "PackSeedsLaw" (139 : Nat) ({ cls := "PackSeedsLaw", name := "alias", desc := "(LPackSeeds;II[J)I" } : Jvm.MethodName)) ∈ Gall := gw 477 (by decide +kernel) (by decide +kernel)
theorem tw_438 : (Jvm.Cond.static ({ cls := "PackSeedsLaw", name := "alias", desc := "(LPackSeeds;II[J)I" } : Jvm.MethodName)) ∈ Gall := gw 478 (by decide +kernel) (by decide +kernel)
theorem tw_439 : (Jvm.Cond.codeWith ({ cls := "PackSeedsLaw", name := "alias", desc := "(LPackSeeds;II[J)I" } : Jvm.MethodName) method_14_code (5 : Nat) (Option.some Jvm.ClassFile.FieldType.int) [((0 : Nat), (9 : Nat), (12 : Nat), (21 : Nat))]) ∈ Gall := gw 479 (by decide +kernel) (by decide +kernel)
theorem tw_440 : (Jvm.Cond.methodLink "PackSeedsLaw" (57 : Nat) ({ cls := "PackSeeds", name := "alias", desc := "(II)J" } : Jvm.MethodName)) ∈ Gall := gw 480 (by decide +kernel) (by decide +kernel)
theorem tw_441 : (Jvm.Cond.instanceMethod ({ cls := "PackSeeds", name := "alias", desc := "(II)J" } : Jvm.MethodName)) ∈ Gall := gw 481 (by decide +kernel) (by decide +kernel)
theorem tw_442 : (Jvm.Cond.selects "PackSeeds" ({ cls := "PackSeeds", name := "alias", desc := "(II)J" } : Jvm.MethodName) ({ cls := "PackSeeds", name := "alias", desc := "(II)J" } : Jvm.MethodName)) ∈ Gall := gw 482 (by decide +kernel) (by decide +kernel)
theorem tw_443 : (Jvm.Cond.code ({ cls := "PackSeeds", name := "alias", desc := "(II)J" } : Jvm.MethodName) prog_1_method_16_code (8 : Nat) (Option.some Jvm.ClassFile.FieldType.long)) ∈ Gall := gw 483 (by decide +kernel) (by decide +kernel)
theorem tw_446 : (Jvm.Cond.methodLink "PackSeeds" (153 : Nat) ({ cls := "java/lang/Math", name := "max", desc := "(II)I" } : Jvm.MethodName)) ∈ Gall := gw 486 (by decide +kernel) (by decide +kernel)
theorem tw_447 : (Jvm.Cond.methodLink "PackSeeds" (156 : Nat) ({ cls := "PackSeeds", name := "greatestDivisor", desc := "(JJ)J" } : Jvm.MethodName)) ∈ Gall := gw 487 (by decide +kernel) (by decide +kernel)
theorem tw_448 : (Jvm.Cond.static ({ cls := "PackSeeds", name := "greatestDivisor", desc := "(JJ)J" } : Jvm.MethodName)) ∈ Gall := gw 488 (by decide +kernel) (by decide +kernel)
theorem tw_449 : (Jvm.Cond.code ({ cls := "PackSeeds", name := "greatestDivisor", desc := "(JJ)J" } : Jvm.MethodName) prog_1_method_34_code (11 : Nat) (Option.some Jvm.ClassFile.FieldType.long)) ∈ Gall := gw 489 (by decide +kernel) (by decide +kernel)
theorem tw_450 : (Jvm.Cond.methodLink "PackSeeds" (211 : Nat) ({ cls := "java/lang/Math", name := "max", desc := "(JJ)J" } : Jvm.MethodName)) ∈ Gall := gw 490 (by decide +kernel) (by decide +kernel)
theorem tw_451 : (Jvm.Cond.static ({ cls := "java/lang/Math", name := "max", desc := "(JJ)J" } : Jvm.MethodName)) ∈ Gall := gw 491 (by decide +kernel) (by decide +kernel)
theorem tw_452 : (Jvm.Cond.code ({ cls := "java/lang/Math", name := "max", desc := "(JJ)J" } : Jvm.MethodName) prog_11_method_66_code (4 : Nat) (Option.some Jvm.ClassFile.FieldType.long)) ∈ Gall := gw 492 (by decide +kernel) (by decide +kernel)
theorem tw_453 : (Jvm.Cond.methodLink "PackSeedsLaw" (142 : Nat) ({ cls := "PackSeedsLaw", name := "fill", desc := "(LPackSeeds;I[J)I" } : Jvm.MethodName)) ∈ Gall := gw 493 (by decide +kernel) (by decide +kernel)
theorem tw_454 : (Jvm.Cond.static ({ cls := "PackSeedsLaw", name := "fill", desc := "(LPackSeeds;I[J)I" } : Jvm.MethodName)) ∈ Gall := gw 494 (by decide +kernel) (by decide +kernel)
theorem tw_455 : (Jvm.Cond.codeWith ({ cls := "PackSeedsLaw", name := "fill", desc := "(LPackSeeds;I[J)I" } : Jvm.MethodName) method_15_code (4 : Nat) (Option.some Jvm.ClassFile.FieldType.int) [((0 : Nat), (16 : Nat), (19 : Nat), (21 : Nat))]) ∈ Gall := gw 495 (by decide +kernel) (by decide +kernel)
theorem tw_456 : (Jvm.Cond.methodLink "PackSeedsLaw" (60 : Nat) ({ cls := "PackSeeds", name := "fill", desc := "(I)Z" } : Jvm.MethodName)) ∈ Gall := gw 496 (by decide +kernel) (by decide +kernel)
theorem tw_457 : (Jvm.Cond.instanceMethod ({ cls := "PackSeeds", name := "fill", desc := "(I)Z" } : Jvm.MethodName)) ∈ Gall := gw 497 (by decide +kernel) (by decide +kernel)
theorem tw_458 : (Jvm.Cond.selects "PackSeeds" ({ cls := "PackSeeds", name := "fill", desc := "(I)Z" } : Jvm.MethodName) ({ cls := "PackSeeds", name := "fill", desc := "(I)Z" } : Jvm.MethodName)) ∈ Gall := gw 498 (by decide +kernel) (by decide +kernel)
theorem tw_459 : (Jvm.Cond.code ({ cls := "PackSeeds", name := "fill", desc := "(I)Z" } : Jvm.MethodName) prog_1_method_17_code (3 : Nat) (Option.some Jvm.ClassFile.FieldType.boolean)) ∈ Gall := gw 499 (by decide +kernel) (by decide +kernel)
theorem tw_461 : (Jvm.Cond.methodLink "PackSeedsLaw" (145 : Nat) ({ cls := "PackSeedsLaw", name := "shifts", desc := "(LPackSeeds;I[J)I" } : Jvm.MethodName)) ∈ Gall := gw 501 (by decide +kernel) (by decide +kernel)
theorem tw_462 : (Jvm.Cond.static ({ cls := "PackSeedsLaw", name := "shifts", desc := "(LPackSeeds;I[J)I" } : Jvm.MethodName)) ∈ Gall := gw 502 (by decide +kernel) (by decide +kernel)
theorem tw_463 : (Jvm.Cond.codeWith ({ cls := "PackSeedsLaw", name := "shifts", desc := "(LPackSeeds;I[J)I" } : Jvm.MethodName) method_16_code (4 : Nat) (Option.some Jvm.ClassFile.FieldType.int) [((0 : Nat), (8 : Nat), (11 : Nat), (19 : Nat))]) ∈ Gall := gw 503 (by decide +kernel) (by decide +kernel)
theorem tw_464 : (Jvm.Cond.methodLink "PackSeedsLaw" (64 : Nat) ({ cls := "PackSeeds", name := "shifts", desc := "(I)J" } : Jvm.MethodName)) ∈ Gall := gw 504 (by decide +kernel) (by decide +kernel)
theorem tw_465 : (Jvm.Cond.instanceMethod ({ cls := "PackSeeds", name := "shifts", desc := "(I)J" } : Jvm.MethodName)) ∈ Gall := gw 505 (by decide +kernel) (by decide +kernel)
theorem tw_466 : (Jvm.Cond.selects "PackSeeds" ({ cls := "PackSeeds", name := "shifts", desc := "(I)J" } : Jvm.MethodName) ({ cls := "PackSeeds", name := "shifts", desc := "(I)J" } : Jvm.MethodName)) ∈ Gall := gw 506 (by decide +kernel) (by decide +kernel)
theorem tw_467 : (Jvm.Cond.code ({ cls := "PackSeeds", name := "shifts", desc := "(I)J" } : Jvm.MethodName) prog_1_method_18_code (9 : Nat) (Option.some Jvm.ClassFile.FieldType.long)) ∈ Gall := gw 507 (by decide +kernel) (by decide +kernel)
theorem tw_468 : (Jvm.Cond.methodLink "PackSeedsLaw" (148 : Nat) ({ cls := "PackSeedsLaw", name := "count", desc := "(LPackSeeds;I[J)I" } : Jvm.MethodName)) ∈ Gall := gw 508 (by decide +kernel) (by decide +kernel)
theorem tw_469 : (Jvm.Cond.static ({ cls := "PackSeedsLaw", name := "count", desc := "(LPackSeeds;I[J)I" } : Jvm.MethodName)) ∈ Gall := gw 509 (by decide +kernel) (by decide +kernel)
theorem tw_470 : (Jvm.Cond.codeWith ({ cls := "PackSeedsLaw", name := "count", desc := "(LPackSeeds;I[J)I" } : Jvm.MethodName) method_17_code (4 : Nat) (Option.some Jvm.ClassFile.FieldType.int) [((0 : Nat), (9 : Nat), (12 : Nat), (19 : Nat))]) ∈ Gall := gw 510 (by decide +kernel) (by decide +kernel)
theorem tw_471 : (Jvm.Cond.methodLink "PackSeedsLaw" (68 : Nat) ({ cls := "PackSeeds", name := "count", desc := "(I)I" } : Jvm.MethodName)) ∈ Gall := gw 511 (by decide +kernel) (by decide +kernel)
theorem tw_472 : (Jvm.Cond.instanceMethod ({ cls := "PackSeeds", name := "count", desc := "(I)I" } : Jvm.MethodName)) ∈ Gall := gw 512 (by decide +kernel) (by decide +kernel)
theorem tw_473 : (Jvm.Cond.selects "PackSeeds" ({ cls := "PackSeeds", name := "count", desc := "(I)I" } : Jvm.MethodName) ({ cls := "PackSeeds", name := "count", desc := "(I)I" } : Jvm.MethodName)) ∈ Gall := gw 513 (by decide +kernel) (by decide +kernel)
theorem tw_474 : (Jvm.Cond.code ({ cls := "PackSeeds", name := "count", desc := "(I)I" } : Jvm.MethodName) prog_1_method_19_code (2 : Nat) (Option.some Jvm.ClassFile.FieldType.int)) ∈ Gall := gw 514 (by decide +kernel) (by decide +kernel)
theorem tw_475 : (Jvm.Cond.methodLink "PackSeeds" (171 : Nat) ({ cls := "PackSeeds", name := "countSeeded", desc := "()I" } : Jvm.MethodName)) ∈ Gall := gw 515 (by decide +kernel) (by decide +kernel)
theorem tw_477 : (Jvm.Cond.instanceMethod ({ cls := "PackSeeds", name := "countSeeded", desc := "()I" } : Jvm.MethodName)) ∈ Gall := gw 517 (by decide +kernel) (by decide +kernel)
theorem tw_478 : (Jvm.Cond.code ({ cls := "PackSeeds", name := "countSeeded", desc := "()I" } : Jvm.MethodName) prog_1_method_29_code (4 : Nat) (Option.some Jvm.ClassFile.FieldType.int)) ∈ Gall := gw 518 (by decide +kernel) (by decide +kernel)
theorem tw_479 : (Jvm.Cond.methodLink "PackSeeds" (174 : Nat) ({ cls := "PackSeeds", name := "countCared", desc := "()I" } : Jvm.MethodName)) ∈ Gall := gw 519 (by decide +kernel) (by decide +kernel)
theorem tw_481 : (Jvm.Cond.instanceMethod ({ cls := "PackSeeds", name := "countCared", desc := "()I" } : Jvm.MethodName)) ∈ Gall := gw 521 (by decide +kernel) (by decide +kernel)
theorem tw_482 : (Jvm.Cond.code ({ cls := "PackSeeds", name := "countCared", desc := "()I" } : Jvm.MethodName) prog_1_method_30_code (4 : Nat) (Option.some Jvm.ClassFile.FieldType.int)) ∈ Gall := gw 522 (by decide +kernel) (by decide +kernel)
theorem tw_483 : (Jvm.Cond.methodLink "PackSeeds" (177 : Nat) ({ cls := "java/lang/Integer", name := "bitCount", desc := "(I)I" } : Jvm.MethodName)) ∈ Gall := gw 523 (by decide +kernel) (by decide +kernel)
theorem tw_485 : (Jvm.Cond.classLink "PackSeedsLaw" (80 : Nat) "PackSeedsModel") ∈ Gall := gw 525 (by decide +kernel) (by decide +kernel)
theorem tw_486 : (Jvm.Cond.instantiable "PackSeedsModel" (13 : Nat)) ∈ Gall := gw 526 (by decide +kernel) (by decide +kernel)
theorem tw_487 : (Jvm.Cond.methodLink "PackSeedsLaw" (82 : Nat) ({ cls := "PackSeedsModel", name := "<init>", desc := "(II)V" } : Jvm.MethodName)) ∈ Gall := gw 527 (by decide +kernel) (by decide +kernel)
theorem tw_488 : (Jvm.Cond.instanceMethod ({ cls := "PackSeedsModel", name := "<init>", desc := "(II)V" } : Jvm.MethodName)) ∈ Gall := gw 528 (by decide +kernel) (by decide +kernel)
theorem tw_489 : (Jvm.Cond.code ({ cls := "PackSeedsModel", name := "<init>", desc := "(II)V" } : Jvm.MethodName) prog_6_method_1_code (3 : Nat) (Option.none : Option Jvm.ClassFile.FieldType)) ∈ Gall := gw 529 (by decide +kernel) (by decide +kernel)
theorem tw_490 : (Jvm.Cond.methodLink "PackSeedsModel" (1 : Nat) ({ cls := "java/lang/Object", name := "<init>", desc := "()V" } : Jvm.MethodName)) ∈ Gall := gw 530 (by decide +kernel) (by decide +kernel)
theorem tw_491 : (Jvm.Cond.fieldLink "PackSeedsModel" (42 : Nat) "PackSeedsModel" "thrown" "I") ∈ Gall := gw 531 (by decide +kernel) (by decide +kernel)
theorem tw_492 : (Jvm.Cond.fieldLink "PackSeedsModel" (32 : Nat) "PackSeedsModel" "chains" "I") ∈ Gall := gw 532 (by decide +kernel) (by decide +kernel)
theorem tw_493 : (Jvm.Cond.fieldLink "PackSeedsModel" (36 : Nat) "PackSeedsModel" "length" "I") ∈ Gall := gw 533 (by decide +kernel) (by decide +kernel)
theorem tw_494 : (Jvm.Cond.fieldLink "PackSeedsModel" (7 : Nat) "PackSeedsModel" "cares" "[I") ∈ Gall := gw 534 (by decide +kernel) (by decide +kernel)
theorem tw_495 : (Jvm.Cond.fieldLink "PackSeedsModel" (13 : Nat) "PackSeedsModel" "masks" "[Z") ∈ Gall := gw 535 (by decide +kernel) (by decide +kernel)
theorem tw_496 : (Jvm.Cond.fieldLink "PackSeedsModel" (17 : Nat) "PackSeedsModel" "faults" "[Z") ∈ Gall := gw 536 (by decide +kernel) (by decide +kernel)
theorem tw_497 : (Jvm.Cond.fieldLink "PackSeedsModel" (20 : Nat) "PackSeedsModel" "gone" "[Z") ∈ Gall := gw 537 (by decide +kernel) (by decide +kernel)
theorem tw_498 : (Jvm.Cond.fieldLink "PackSeedsModel" (23 : Nat) "PackSeedsModel" "seeds" "[I") ∈ Gall := gw 538 (by decide +kernel) (by decide +kernel)
theorem tw_499 : (Jvm.Cond.fieldLink "PackSeedsModel" (45 : Nat) "PackSeedsModel" "patterns" "I") ∈ Gall := gw 539 (by decide +kernel) (by decide +kernel)
theorem tw_500 : (Jvm.Cond.fieldLink "PackSeedsModel" (39 : Nat) "PackSeedsModel" "degree" "I") ∈ Gall := gw 540 (by decide +kernel) (by decide +kernel)
theorem tw_501 : (Jvm.Cond.fieldLink "PackSeedsModel" (26 : Nat) "PackSeedsModel" "taps" "[Z") ∈ Gall := gw 541 (by decide +kernel) (by decide +kernel)
theorem tw_502 : (Jvm.Cond.fieldLink "PackSeedsModel" (83 : Nat) "PackSeedsModel" "filling" "I") ∈ Gall := gw 542 (by decide +kernel) (by decide +kernel)
theorem tw_503 : (Jvm.Cond.fieldLink "PackSeedsModel" (29 : Nat) "PackSeedsModel" "basis" "[I") ∈ Gall := gw 543 (by decide +kernel) (by decide +kernel)
theorem tw_504 : (Jvm.Cond.lays "PackSeedsModel" "PackSeedsModel" "thrown" "I") ∈ Gall := gw 544 (by decide +kernel) (by decide +kernel)
theorem tw_506 : (Jvm.Cond.laysFinal "PackSeedsModel" "PackSeedsModel" "chains" "I") ∈ Gall := gw 546 (by decide +kernel) (by decide +kernel)
theorem tw_508 : (Jvm.Cond.laysFinal "PackSeedsModel" "PackSeedsModel" "length" "I") ∈ Gall := gw 548 (by decide +kernel) (by decide +kernel)
theorem tw_510 : (Jvm.Cond.laysFinal "PackSeedsModel" "PackSeedsModel" "cares" "[I") ∈ Gall := gw 550 (by decide +kernel) (by decide +kernel)
theorem tw_512 : (Jvm.Cond.laysFinal "PackSeedsModel" "PackSeedsModel" "masks" "[Z") ∈ Gall := gw 552 (by decide +kernel) (by decide +kernel)
theorem tw_514 : (Jvm.Cond.laysFinal "PackSeedsModel" "PackSeedsModel" "faults" "[Z") ∈ Gall := gw 554 (by decide +kernel) (by decide +kernel)
theorem tw_516 : (Jvm.Cond.laysFinal "PackSeedsModel" "PackSeedsModel" "gone" "[Z") ∈ Gall := gw 556 (by decide +kernel) (by decide +kernel)
theorem tw_518 : (Jvm.Cond.laysFinal "PackSeedsModel" "PackSeedsModel" "seeds" "[I") ∈ Gall := gw 558 (by decide +kernel) (by decide +kernel)
theorem tw_520 : (Jvm.Cond.lays "PackSeedsModel" "PackSeedsModel" "patterns" "I") ∈ Gall := gw 560 (by decide +kernel) (by decide +kernel)
theorem tw_522 : (Jvm.Cond.lays "PackSeedsModel" "PackSeedsModel" "degree" "I") ∈ Gall := gw 562 (by decide +kernel) (by decide +kernel)
theorem tw_524 : (Jvm.Cond.laysFinal "PackSeedsModel" "PackSeedsModel" "taps" "[Z") ∈ Gall := gw 564 (by decide +kernel) (by decide +kernel)
theorem tw_526 : (Jvm.Cond.lays "PackSeedsModel" "PackSeedsModel" "filling" "I") ∈ Gall := gw 566 (by decide +kernel) (by decide +kernel)
theorem tw_528 : (Jvm.Cond.laysFinal "PackSeedsModel" "PackSeedsModel" "basis" "[I") ∈ Gall := gw 568 (by decide +kernel) (by decide +kernel)
theorem tw_531 : (Jvm.Cond.arrayClass Jvm.ClassFile.FieldType.int) ∈ Gall := gw 571 (by decide +kernel) (by decide +kernel)
theorem tw_532 : (Jvm.Cond.arrayClass Jvm.ClassFile.FieldType.boolean) ∈ Gall := gw 572 (by decide +kernel) (by decide +kernel)
theorem tw_533 : (Jvm.Cond.methodLink "PackSeedsLaw" (87 : Nat) ({ cls := "PackSeedsModel", name := "thrown", desc := "()I" } : Jvm.MethodName)) ∈ Gall := gw 573 (by decide +kernel) (by decide +kernel)
theorem tw_534 : (Jvm.Cond.instanceMethod ({ cls := "PackSeedsModel", name := "thrown", desc := "()I" } : Jvm.MethodName)) ∈ Gall := gw 574 (by decide +kernel) (by decide +kernel)
theorem tw_535 : (Jvm.Cond.selects "PackSeedsModel" ({ cls := "PackSeedsModel", name := "thrown", desc := "()I" } : Jvm.MethodName) ({ cls := "PackSeedsModel", name := "thrown", desc := "()I" } : Jvm.MethodName)) ∈ Gall := gw 575 (by decide +kernel) (by decide +kernel)
theorem tw_536 : (Jvm.Cond.code ({ cls := "PackSeedsModel", name := "thrown", desc := "()I" } : Jvm.MethodName) prog_6_method_2_code (1 : Nat) (Option.some Jvm.ClassFile.FieldType.int)) ∈ Gall := gw 576 (by decide +kernel) (by decide +kernel)
theorem tw_537 : (Jvm.Cond.methodLink "PackSeedsLaw" (86 : Nat) ({ cls := "PackSeedsModel", name := "pattern", desc := "()I" } : Jvm.MethodName)) ∈ Gall := gw 577 (by decide +kernel) (by decide +kernel)
theorem tw_538 : (Jvm.Cond.instanceMethod ({ cls := "PackSeedsModel", name := "pattern", desc := "()I" } : Jvm.MethodName)) ∈ Gall := gw 578 (by decide +kernel) (by decide +kernel)
theorem tw_539 : (Jvm.Cond.selects "PackSeedsModel" ({ cls := "PackSeedsModel", name := "pattern", desc := "()I" } : Jvm.MethodName) ({ cls := "PackSeedsModel", name := "pattern", desc := "()I" } : Jvm.MethodName)) ∈ Gall := gw 579 (by decide +kernel) (by decide +kernel)
theorem tw_540 : (Jvm.Cond.code ({ cls := "PackSeedsModel", name := "pattern", desc := "()I" } : Jvm.MethodName) prog_6_method_6_code (2 : Nat) (Option.some Jvm.ClassFile.FieldType.int)) ∈ Gall := gw 580 (by decide +kernel) (by decide +kernel)
theorem tw_541 : (Jvm.Cond.methodLink "PackSeedsLaw" (93 : Nat) ({ cls := "PackSeedsModel", name := "care", desc := "(IIII)Z" } : Jvm.MethodName)) ∈ Gall := gw 581 (by decide +kernel) (by decide +kernel)
theorem tw_542 : (Jvm.Cond.instanceMethod ({ cls := "PackSeedsModel", name := "care", desc := "(IIII)Z" } : Jvm.MethodName)) ∈ Gall := gw 582 (by decide +kernel) (by decide +kernel)
theorem tw_543 : (Jvm.Cond.selects "PackSeedsModel" ({ cls := "PackSeedsModel", name := "care", desc := "(IIII)Z" } : Jvm.MethodName) ({ cls := "PackSeedsModel", name := "care", desc := "(IIII)Z" } : Jvm.MethodName)) ∈ Gall := gw 583 (by decide +kernel) (by decide +kernel)
theorem tw_544 : (Jvm.Cond.code ({ cls := "PackSeedsModel", name := "care", desc := "(IIII)Z" } : Jvm.MethodName) prog_6_method_7_code (7 : Nat) (Option.some Jvm.ClassFile.FieldType.boolean)) ∈ Gall := gw 584 (by decide +kernel) (by decide +kernel)
theorem tw_545 : (Jvm.Cond.methodLink "PackSeedsModel" (48 : Nat) ({ cls := "PackSeedsModel", name := "is", desc := "(I)Z" } : Jvm.MethodName)) ∈ Gall := gw 585 (by decide +kernel) (by decide +kernel)
theorem tw_547 : (Jvm.Cond.instanceMethod ({ cls := "PackSeedsModel", name := "is", desc := "(I)Z" } : Jvm.MethodName)) ∈ Gall := gw 587 (by decide +kernel) (by decide +kernel)
theorem tw_548 : (Jvm.Cond.code ({ cls := "PackSeedsModel", name := "is", desc := "(I)Z" } : Jvm.MethodName) prog_6_method_3_code (2 : Nat) (Option.some Jvm.ClassFile.FieldType.boolean)) ∈ Gall := gw 588 (by decide +kernel) (by decide +kernel)
theorem tw_549 : (Jvm.Cond.methodLink "PackSeedsModel" (52 : Nat) ({ cls := "PackSeedsModel", name := "isCell", desc := "(II)Z" } : Jvm.MethodName)) ∈ Gall := gw 589 (by decide +kernel) (by decide +kernel)
theorem tw_551 : (Jvm.Cond.instanceMethod ({ cls := "PackSeedsModel", name := "isCell", desc := "(II)Z" } : Jvm.MethodName)) ∈ Gall := gw 591 (by decide +kernel) (by decide +kernel)
theorem tw_552 : (Jvm.Cond.code ({ cls := "PackSeedsModel", name := "isCell", desc := "(II)Z" } : Jvm.MethodName) prog_6_method_4_code (3 : Nat) (Option.some Jvm.ClassFile.FieldType.boolean)) ∈ Gall := gw 592 (by decide +kernel) (by decide +kernel)
theorem tw_553 : (Jvm.Cond.methodLink "PackSeedsModel" (56 : Nat) ({ cls := "PackSeedsModel", name := "place", desc := "(III)I" } : Jvm.MethodName)) ∈ Gall := gw 593 (by decide +kernel) (by decide +kernel)
theorem tw_555 : (Jvm.Cond.instanceMethod ({ cls := "PackSeedsModel", name := "place", desc := "(III)I" } : Jvm.MethodName)) ∈ Gall := gw 595 (by decide +kernel) (by decide +kernel)
theorem tw_556 : (Jvm.Cond.code ({ cls := "PackSeedsModel", name := "place", desc := "(III)I" } : Jvm.MethodName) prog_6_method_5_code (4 : Nat) (Option.some Jvm.ClassFile.FieldType.int)) ∈ Gall := gw 596 (by decide +kernel) (by decide +kernel)
theorem tw_557 : (Jvm.Cond.methodLink "PackSeedsLaw" (120 : Nat) ({ cls := "PackSeedsModel", name := "found", desc := "(II)Z" } : Jvm.MethodName)) ∈ Gall := gw 597 (by decide +kernel) (by decide +kernel)
theorem tw_558 : (Jvm.Cond.instanceMethod ({ cls := "PackSeedsModel", name := "found", desc := "(II)Z" } : Jvm.MethodName)) ∈ Gall := gw 598 (by decide +kernel) (by decide +kernel)
theorem tw_559 : (Jvm.Cond.selects "PackSeedsModel" ({ cls := "PackSeedsModel", name := "found", desc := "(II)Z" } : Jvm.MethodName) ({ cls := "PackSeedsModel", name := "found", desc := "(II)Z" } : Jvm.MethodName)) ∈ Gall := gw 599 (by decide +kernel) (by decide +kernel)
theorem tw_560 : (Jvm.Cond.code ({ cls := "PackSeedsModel", name := "found", desc := "(II)Z" } : Jvm.MethodName) prog_6_method_8_code (4 : Nat) (Option.some Jvm.ClassFile.FieldType.boolean)) ∈ Gall := gw 600 (by decide +kernel) (by decide +kernel)
theorem tw_561 : (Jvm.Cond.methodLink "PackSeedsLaw" (130 : Nat) ({ cls := "PackSeedsModel", name := "mask", desc := "(III)Z" } : Jvm.MethodName)) ∈ Gall := gw 601 (by decide +kernel) (by decide +kernel)
theorem tw_562 : (Jvm.Cond.instanceMethod ({ cls := "PackSeedsModel", name := "mask", desc := "(III)Z" } : Jvm.MethodName)) ∈ Gall := gw 602 (by decide +kernel) (by decide +kernel)
theorem tw_563 : (Jvm.Cond.selects "PackSeedsModel" ({ cls := "PackSeedsModel", name := "mask", desc := "(III)Z" } : Jvm.MethodName) ({ cls := "PackSeedsModel", name := "mask", desc := "(III)Z" } : Jvm.MethodName)) ∈ Gall := gw 603 (by decide +kernel) (by decide +kernel)
theorem tw_564 : (Jvm.Cond.code ({ cls := "PackSeedsModel", name := "mask", desc := "(III)Z" } : Jvm.MethodName) prog_6_method_9_code (6 : Nat) (Option.some Jvm.ClassFile.FieldType.boolean)) ∈ Gall := gw 604 (by decide +kernel) (by decide +kernel)
theorem tw_565 : (Jvm.Cond.methodLink "PackSeedsLaw" (97 : Nat) ({ cls := "PackSeedsModel", name := "join", desc := "()I" } : Jvm.MethodName)) ∈ Gall := gw 605 (by decide +kernel) (by decide +kernel)
theorem tw_566 : (Jvm.Cond.instanceMethod ({ cls := "PackSeedsModel", name := "join", desc := "()I" } : Jvm.MethodName)) ∈ Gall := gw 606 (by decide +kernel) (by decide +kernel)
theorem tw_567 : (Jvm.Cond.selects "PackSeedsModel" ({ cls := "PackSeedsModel", name := "join", desc := "()I" } : Jvm.MethodName) ({ cls := "PackSeedsModel", name := "join", desc := "()I" } : Jvm.MethodName)) ∈ Gall := gw 607 (by decide +kernel) (by decide +kernel)
theorem tw_568 : (Jvm.Cond.code ({ cls := "PackSeedsModel", name := "join", desc := "()I" } : Jvm.MethodName) prog_6_method_12_code (4 : Nat) (Option.some Jvm.ClassFile.FieldType.int)) ∈ Gall := gw 608 (by decide +kernel) (by decide +kernel)
theorem tw_569 : (Jvm.Cond.methodLink "PackSeedsModel" (60 : Nat) ({ cls := "PackSeedsModel", name := "goTogether", desc := "(II)Z" } : Jvm.MethodName)) ∈ Gall := gw 609 (by decide +kernel) (by decide +kernel)
theorem tw_571 : (Jvm.Cond.instanceMethod ({ cls := "PackSeedsModel", name := "goTogether", desc := "(II)Z" } : Jvm.MethodName)) ∈ Gall := gw 611 (by decide +kernel) (by decide +kernel)
theorem tw_572 : (Jvm.Cond.code ({ cls := "PackSeedsModel", name := "goTogether", desc := "(II)Z" } : Jvm.MethodName) prog_6_method_10_code (7 : Nat) (Option.some Jvm.ClassFile.FieldType.boolean)) ∈ Gall := gw 612 (by decide +kernel) (by decide +kernel)
theorem tw_573 : (Jvm.Cond.methodLink "PackSeedsModel" (63 : Nat) ({ cls := "PackSeedsModel", name := "left", desc := "()I" } : Jvm.MethodName)) ∈ Gall := gw 613 (by decide +kernel) (by decide +kernel)
theorem tw_575 : (Jvm.Cond.instanceMethod ({ cls := "PackSeedsModel", name := "left", desc := "()I" } : Jvm.MethodName)) ∈ Gall := gw 615 (by decide +kernel) (by decide +kernel)
theorem tw_576 : (Jvm.Cond.code ({ cls := "PackSeedsModel", name := "left", desc := "()I" } : Jvm.MethodName) prog_6_method_11_code (3 : Nat) (Option.some Jvm.ClassFile.FieldType.int)) ∈ Gall := gw 616 (by decide +kernel) (by decide +kernel)
theorem tw_577 : (Jvm.Cond.methodLink "PackSeedsLaw" (124 : Nat) ({ cls := "PackSeedsModel", name := "drop", desc := "()I" } : Jvm.MethodName)) ∈ Gall := gw 617 (by decide +kernel) (by decide +kernel)
theorem tw_578 : (Jvm.Cond.instanceMethod ({ cls := "PackSeedsModel", name := "drop", desc := "()I" } : Jvm.MethodName)) ∈ Gall := gw 618 (by decide +kernel) (by decide +kernel)
theorem tw_579 : (Jvm.Cond.selects "PackSeedsModel" ({ cls := "PackSeedsModel", name := "drop", desc := "()I" } : Jvm.MethodName) ({ cls := "PackSeedsModel", name := "drop", desc := "()I" } : Jvm.MethodName)) ∈ Gall := gw 619 (by decide +kernel) (by decide +kernel)
theorem tw_580 : (Jvm.Cond.code ({ cls := "PackSeedsModel", name := "drop", desc := "()I" } : Jvm.MethodName) prog_6_method_14_code (4 : Nat) (Option.some Jvm.ClassFile.FieldType.int)) ∈ Gall := gw 620 (by decide +kernel) (by decide +kernel)
theorem tw_581 : (Jvm.Cond.methodLink "PackSeedsModel" (67 : Nat) ({ cls := "PackSeedsModel", name := "findersOf", desc := "(I)I" } : Jvm.MethodName)) ∈ Gall := gw 621 (by decide +kernel) (by decide +kernel)
theorem tw_583 : (Jvm.Cond.instanceMethod ({ cls := "PackSeedsModel", name := "findersOf", desc := "(I)I" } : Jvm.MethodName)) ∈ Gall := gw 623 (by decide +kernel) (by decide +kernel)
theorem tw_584 : (Jvm.Cond.code ({ cls := "PackSeedsModel", name := "findersOf", desc := "(I)I" } : Jvm.MethodName) prog_6_method_13_code (4 : Nat) (Option.some Jvm.ClassFile.FieldType.int)) ∈ Gall := gw 624 (by decide +kernel) (by decide +kernel)
theorem tw_585 : (Jvm.Cond.methodLink "PackSeedsLaw" (127 : Nat) ({ cls := "PackSeedsModel", name := "finders", desc := "(I)I" } : Jvm.MethodName)) ∈ Gall := gw 625 (by decide +kernel) (by decide +kernel)
theorem tw_586 : (Jvm.Cond.instanceMethod ({ cls := "PackSeedsModel", name := "finders", desc := "(I)I" } : Jvm.MethodName)) ∈ Gall := gw 626 (by decide +kernel) (by decide +kernel)
theorem tw_587 : (Jvm.Cond.selects "PackSeedsModel" ({ cls := "PackSeedsModel", name := "finders", desc := "(I)I" } : Jvm.MethodName) ({ cls := "PackSeedsModel", name := "finders", desc := "(I)I" } : Jvm.MethodName)) ∈ Gall := gw 627 (by decide +kernel) (by decide +kernel)
theorem tw_588 : (Jvm.Cond.code ({ cls := "PackSeedsModel", name := "finders", desc := "(I)I" } : Jvm.MethodName) prog_6_method_15_code (2 : Nat) (Option.some Jvm.ClassFile.FieldType.int)) ∈ Gall := gw 628 (by decide +kernel) (by decide +kernel)
theorem tw_589 : (Jvm.Cond.methodLink "PackSeedsLaw" (101 : Nat) ({ cls := "PackSeedsModel", name := "degree", desc := "(I)V" } : Jvm.MethodName)) ∈ Gall := gw 629 (by decide +kernel) (by decide +kernel)
theorem tw_590 : (Jvm.Cond.instanceMethod ({ cls := "PackSeedsModel", name := "degree", desc := "(I)V" } : Jvm.MethodName)) ∈ Gall := gw 630 (by decide +kernel) (by decide +kernel)
theorem tw_591 : (Jvm.Cond.selects "PackSeedsModel" ({ cls := "PackSeedsModel", name := "degree", desc := "(I)V" } : Jvm.MethodName) ({ cls := "PackSeedsModel", name := "degree", desc := "(I)V" } : Jvm.MethodName)) ∈ Gall := gw 631 (by decide +kernel) (by decide +kernel)
theorem tw_592 : (Jvm.Cond.code ({ cls := "PackSeedsModel", name := "degree", desc := "(I)V" } : Jvm.MethodName) prog_6_method_17_code (3 : Nat) (Option.none : Option Jvm.ClassFile.FieldType)) ∈ Gall := gw 632 (by decide +kernel) (by decide +kernel)
theorem tw_593 : (Jvm.Cond.methodLink "PackSeedsModel" (71 : Nat) ({ cls := "PackSeedsModel", name := "noSeeds", desc := "()V" } : Jvm.MethodName)) ∈ Gall := gw 633 (by decide +kernel) (by decide +kernel)
theorem tw_595 : (Jvm.Cond.instanceMethod ({ cls := "PackSeedsModel", name := "noSeeds", desc := "()V" } : Jvm.MethodName)) ∈ Gall := gw 635 (by decide +kernel) (by decide +kernel)
theorem tw_596 : (Jvm.Cond.code ({ cls := "PackSeedsModel", name := "noSeeds", desc := "()V" } : Jvm.MethodName) prog_6_method_16_code (2 : Nat) (Option.none : Option Jvm.ClassFile.FieldType)) ∈ Gall := gw 636 (by decide +kernel) (by decide +kernel)
theorem tw_597 : (Jvm.Cond.methodLink "PackSeedsLaw" (105 : Nat) ({ cls := "PackSeedsModel", name := "machine", desc := "(IZ)Z" } : Jvm.MethodName)) ∈ Gall := gw 637 (by decide +kernel) (by decide +kernel)
theorem tw_598 : (Jvm.Cond.instanceMethod ({ cls := "PackSeedsModel", name := "machine", desc := "(IZ)Z" } : Jvm.MethodName)) ∈ Gall := gw 638 (by decide +kernel) (by decide +kernel)
theorem tw_599 : (Jvm.Cond.selects "PackSeedsModel" ({ cls := "PackSeedsModel", name := "machine", desc := "(IZ)Z" } : Jvm.MethodName) ({ cls := "PackSeedsModel", name := "machine", desc := "(IZ)Z" } : Jvm.MethodName)) ∈ Gall := gw 639 (by decide +kernel) (by decide +kernel)
theorem tw_600 : (Jvm.Cond.code ({ cls := "PackSeedsModel", name := "machine", desc := "(IZ)Z" } : Jvm.MethodName) prog_6_method_18_code (3 : Nat) (Option.some Jvm.ClassFile.FieldType.boolean)) ∈ Gall := gw 640 (by decide +kernel) (by decide +kernel)
theorem tw_601 : (Jvm.Cond.methodLink "PackSeedsLaw" (109 : Nat) ({ cls := "PackSeedsModel", name := "seed", desc := "(I)I" } : Jvm.MethodName)) ∈ Gall := gw 641 (by decide +kernel) (by decide +kernel)
theorem tw_602 : (Jvm.Cond.instanceMethod ({ cls := "PackSeedsModel", name := "seed", desc := "(I)I" } : Jvm.MethodName)) ∈ Gall := gw 642 (by decide +kernel) (by decide +kernel)
theorem tw_603 : (Jvm.Cond.selects "PackSeedsModel" ({ cls := "PackSeedsModel", name := "seed", desc := "(I)I" } : Jvm.MethodName) ({ cls := "PackSeedsModel", name := "seed", desc := "(I)I" } : Jvm.MethodName)) ∈ Gall := gw 643 (by decide +kernel) (by decide +kernel)
theorem tw_604 : (Jvm.Cond.code ({ cls := "PackSeedsModel", name := "seed", desc := "(I)I" } : Jvm.MethodName) prog_6_method_22_code (3 : Nat) (Option.some Jvm.ClassFile.FieldType.int)) ∈ Gall := gw 644 (by decide +kernel) (by decide +kernel)
theorem tw_605 : (Jvm.Cond.methodLink "PackSeedsModel" (77 : Nat) ({ cls := "PackSeedsModel", name := "makes", desc := "(II)Z" } : Jvm.MethodName)) ∈ Gall := gw 645 (by decide +kernel) (by decide +kernel)
theorem tw_607 : (Jvm.Cond.instanceMethod ({ cls := "PackSeedsModel", name := "makes", desc := "(II)Z" } : Jvm.MethodName)) ∈ Gall := gw 647 (by decide +kernel) (by decide +kernel)
theorem tw_608 : (Jvm.Cond.code ({ cls := "PackSeedsModel", name := "makes", desc := "(II)Z" } : Jvm.MethodName) prog_6_method_21_code (7 : Nat) (Option.some Jvm.ClassFile.FieldType.boolean)) ∈ Gall := gw 648 (by decide +kernel) (by decide +kernel)
theorem tw_609 : (Jvm.Cond.methodLink "PackSeedsModel" (74 : Nat) ({ cls := "PackSeedsModel", name := "step", desc := "(I)I" } : Jvm.MethodName)) ∈ Gall := gw 649 (by decide +kernel) (by decide +kernel)
theorem tw_611 : (Jvm.Cond.instanceMethod ({ cls := "PackSeedsModel", name := "step", desc := "(I)I" } : Jvm.MethodName)) ∈ Gall := gw 651 (by decide +kernel) (by decide +kernel)
theorem tw_612 : (Jvm.Cond.code ({ cls := "PackSeedsModel", name := "step", desc := "(I)I" } : Jvm.MethodName) prog_6_method_19_code (4 : Nat) (Option.some Jvm.ClassFile.FieldType.int)) ∈ Gall := gw 652 (by decide +kernel) (by decide +kernel)
theorem tw_613 : (Jvm.Cond.methodLink "PackSeedsLaw" (112 : Nat) ({ cls := "PackSeedsModel", name := "seedOf", desc := "(I)I" } : Jvm.MethodName)) ∈ Gall := gw 653 (by decide +kernel) (by decide +kernel)
theorem tw_614 : (Jvm.Cond.instanceMethod ({ cls := "PackSeedsModel", name := "seedOf", desc := "(I)I" } : Jvm.MethodName)) ∈ Gall := gw 654 (by decide +kernel) (by decide +kernel)
theorem tw_615 : (Jvm.Cond.selects "PackSeedsModel" ({ cls := "PackSeedsModel", name := "seedOf", desc := "(I)I" } : Jvm.MethodName) ({ cls := "PackSeedsModel", name := "seedOf", desc := "(I)I" } : Jvm.MethodName)) ∈ Gall := gw 655 (by decide +kernel) (by decide +kernel)
theorem tw_616 : (Jvm.Cond.code ({ cls := "PackSeedsModel", name := "seedOf", desc := "(I)I" } : Jvm.MethodName) prog_6_method_23_code (2 : Nat) (Option.some Jvm.ClassFile.FieldType.int)) ∈ Gall := gw 656 (by decide +kernel) (by decide +kernel)
theorem tw_617 : (Jvm.Cond.methodLink "PackSeedsLaw" (116 : Nat) ({ cls := "PackSeedsModel", name := "bit", desc := "(III)I" } : Jvm.MethodName)) ∈ Gall := gw 657 (by decide +kernel) (by decide +kernel)
theorem tw_618 : (Jvm.Cond.instanceMethod ({ cls := "PackSeedsModel", name := "bit", desc := "(III)I" } : Jvm.MethodName)) ∈ Gall := gw 658 (by decide +kernel) (by decide +kernel)
theorem tw_619 : (Jvm.Cond.selects "PackSeedsModel" ({ cls := "PackSeedsModel", name := "bit", desc := "(III)I" } : Jvm.MethodName) ({ cls := "PackSeedsModel", name := "bit", desc := "(III)I" } : Jvm.MethodName)) ∈ Gall := gw 659 (by decide +kernel) (by decide +kernel)
theorem tw_620 : (Jvm.Cond.code ({ cls := "PackSeedsModel", name := "bit", desc := "(III)I" } : Jvm.MethodName) prog_6_method_25_code (4 : Nat) (Option.some Jvm.ClassFile.FieldType.int)) ∈ Gall := gw 660 (by decide +kernel) (by decide +kernel)
theorem tw_621 : (Jvm.Cond.methodLink "PackSeedsModel" (86 : Nat) ({ cls := "PackSeedsModel", name := "bitOf", desc := "(III)I" } : Jvm.MethodName)) ∈ Gall := gw 661 (by decide +kernel) (by decide +kernel)
theorem tw_623 : (Jvm.Cond.instanceMethod ({ cls := "PackSeedsModel", name := "bitOf", desc := "(III)I" } : Jvm.MethodName)) ∈ Gall := gw 663 (by decide +kernel) (by decide +kernel)
theorem tw_624 : (Jvm.Cond.code ({ cls := "PackSeedsModel", name := "bitOf", desc := "(III)I" } : Jvm.MethodName) prog_6_method_24_code (6 : Nat) (Option.some Jvm.ClassFile.FieldType.int)) ∈ Gall := gw 664 (by decide +kernel) (by decide +kernel)
theorem tw_625 : (Jvm.Cond.methodLink "PackSeedsModel" (80 : Nat) ({ cls := "PackSeedsModel", name := "brought", desc := "(III)I" } : Jvm.MethodName)) ∈ Gall := gw 665 (by decide +kernel) (by decide +kernel)
theorem tw_627 : (Jvm.Cond.instanceMethod ({ cls := "PackSeedsModel", name := "brought", desc := "(III)I" } : Jvm.MethodName)) ∈ Gall := gw 667 (by decide +kernel) (by decide +kernel)
theorem tw_628 : (Jvm.Cond.code ({ cls := "PackSeedsModel", name := "brought", desc := "(III)I" } : Jvm.MethodName) prog_6_method_20_code (6 : Nat) (Option.some Jvm.ClassFile.FieldType.int)) ∈ Gall := gw 668 (by decide +kernel) (by decide +kernel)
theorem tw_629 : (Jvm.Cond.methodLink "PackSeedsLaw" (144 : Nat) ({ cls := "PackSeedsModel", name := "fill", desc := "(I)Z" } : Jvm.MethodName)) ∈ Gall := gw 669 (by decide +kernel) (by decide +kernel)
theorem tw_630 : (Jvm.Cond.instanceMethod ({ cls := "PackSeedsModel", name := "fill", desc := "(I)Z" } : Jvm.MethodName)) ∈ Gall := gw 670 (by decide +kernel) (by decide +kernel)
theorem tw_631 : (Jvm.Cond.selects "PackSeedsModel" ({ cls := "PackSeedsModel", name := "fill", desc := "(I)Z" } : Jvm.MethodName) ({ cls := "PackSeedsModel", name := "fill", desc := "(I)Z" } : Jvm.MethodName)) ∈ Gall := gw 671 (by decide +kernel) (by decide +kernel)
theorem tw_632 : (Jvm.Cond.code ({ cls := "PackSeedsModel", name := "fill", desc := "(I)Z" } : Jvm.MethodName) prog_6_method_26_code (3 : Nat) (Option.some Jvm.ClassFile.FieldType.boolean)) ∈ Gall := gw 672 (by decide +kernel) (by decide +kernel)
theorem tw_633 : (Jvm.Cond.methodLink "PackSeedsLaw" (147 : Nat) ({ cls := "PackSeedsModel", name := "shifts", desc := "(I)J" } : Jvm.MethodName)) ∈ Gall := gw 673 (by decide +kernel) (by decide +kernel)
theorem tw_634 : (Jvm.Cond.instanceMethod ({ cls := "PackSeedsModel", name := "shifts", desc := "(I)J" } : Jvm.MethodName)) ∈ Gall := gw 674 (by decide +kernel) (by decide +kernel)
theorem tw_635 : (Jvm.Cond.selects "PackSeedsModel" ({ cls := "PackSeedsModel", name := "shifts", desc := "(I)J" } : Jvm.MethodName) ({ cls := "PackSeedsModel", name := "shifts", desc := "(I)J" } : Jvm.MethodName)) ∈ Gall := gw 675 (by decide +kernel) (by decide +kernel)
theorem tw_636 : (Jvm.Cond.code ({ cls := "PackSeedsModel", name := "shifts", desc := "(I)J" } : Jvm.MethodName) prog_6_method_27_code (6 : Nat) (Option.some Jvm.ClassFile.FieldType.long)) ∈ Gall := gw 676 (by decide +kernel) (by decide +kernel)
theorem tw_637 : (Jvm.Cond.methodLink "PackSeedsLaw" (133 : Nat) ({ cls := "PackSeedsModel", name := "signature", desc := "(II)J" } : Jvm.MethodName)) ∈ Gall := gw 677 (by decide +kernel) (by decide +kernel)
theorem tw_638 : (Jvm.Cond.instanceMethod ({ cls := "PackSeedsModel", name := "signature", desc := "(II)J" } : Jvm.MethodName)) ∈ Gall := gw 678 (by decide +kernel) (by decide +kernel)
theorem tw_639 : (Jvm.Cond.selects "PackSeedsModel" ({ cls := "PackSeedsModel", name := "signature", desc := "(II)J" } : Jvm.MethodName) ({ cls := "PackSeedsModel", name := "signature", desc := "(II)J" } : Jvm.MethodName)) ∈ Gall := gw 679 (by decide +kernel) (by decide +kernel)
theorem tw_640 : (Jvm.Cond.code ({ cls := "PackSeedsModel", name := "signature", desc := "(II)J" } : Jvm.MethodName) prog_6_method_28_code (8 : Nat) (Option.some Jvm.ClassFile.FieldType.long)) ∈ Gall := gw 680 (by decide +kernel) (by decide +kernel)
theorem tw_641 : (Jvm.Cond.methodLink "PackSeedsLaw" (138 : Nat) ({ cls := "PackSeedsModel", name := "primitive", desc := "()Z" } : Jvm.MethodName)) ∈ Gall := gw 681 (by decide +kernel) (by decide +kernel)
theorem tw_642 : (Jvm.Cond.instanceMethod ({ cls := "PackSeedsModel", name := "primitive", desc := "()Z" } : Jvm.MethodName)) ∈ Gall := gw 682 (by decide +kernel) (by decide +kernel)
theorem tw_643 : (Jvm.Cond.selects "PackSeedsModel" ({ cls := "PackSeedsModel", name := "primitive", desc := "()Z" } : Jvm.MethodName) ({ cls := "PackSeedsModel", name := "primitive", desc := "()Z" } : Jvm.MethodName)) ∈ Gall := gw 683 (by decide +kernel) (by decide +kernel)
theorem tw_644 : (Jvm.Cond.code ({ cls := "PackSeedsModel", name := "primitive", desc := "()Z" } : Jvm.MethodName) prog_6_method_29_code (3 : Nat) (Option.some Jvm.ClassFile.FieldType.boolean)) ∈ Gall := gw 684 (by decide +kernel) (by decide +kernel)
theorem tw_645 : (Jvm.Cond.methodLink "PackSeedsLaw" (141 : Nat) ({ cls := "PackSeedsModel", name := "alias", desc := "(II)J" } : Jvm.MethodName)) ∈ Gall := gw 685 (by decide +kernel) (by decide +kernel)
theorem tw_646 : (Jvm.Cond.instanceMethod ({ cls := "PackSeedsModel", name := "alias", desc := "(II)J" } : Jvm.MethodName)) ∈ Gall := gw 686 (by decide +kernel) (by decide +kernel)
theorem tw_647 : (Jvm.Cond.selects "PackSeedsModel" ({ cls := "PackSeedsModel", name := "alias", desc := "(II)J" } : Jvm.MethodName) ({ cls := "PackSeedsModel", name := "alias", desc := "(II)J" } : Jvm.MethodName)) ∈ Gall := gw 687 (by decide +kernel) (by decide +kernel)
theorem tw_648 : (Jvm.Cond.code ({ cls := "PackSeedsModel", name := "alias", desc := "(II)J" } : Jvm.MethodName) prog_6_method_31_code (13 : Nat) (Option.some Jvm.ClassFile.FieldType.long)) ∈ Gall := gw 688 (by decide +kernel) (by decide +kernel)
theorem tw_649 : (Jvm.Cond.methodLink "PackSeedsModel" (89 : Nat) ({ cls := "PackSeedsModel", name := "rank", desc := "(I)I" } : Jvm.MethodName)) ∈ Gall := gw 689 (by decide +kernel) (by decide +kernel)
theorem tw_651 : (Jvm.Cond.instanceMethod ({ cls := "PackSeedsModel", name := "rank", desc := "(I)I" } : Jvm.MethodName)) ∈ Gall := gw 691 (by decide +kernel) (by decide +kernel)
theorem tw_652 : (Jvm.Cond.code ({ cls := "PackSeedsModel", name := "rank", desc := "(I)I" } : Jvm.MethodName) prog_6_method_30_code (7 : Nat) (Option.some Jvm.ClassFile.FieldType.int)) ∈ Gall := gw 692 (by decide +kernel) (by decide +kernel)
theorem tw_653 : (Jvm.Cond.methodLink "PackSeedsLaw" (150 : Nat) ({ cls := "PackSeedsModel", name := "count", desc := "(I)I" } : Jvm.MethodName)) ∈ Gall := gw 693 (by decide +kernel) (by decide +kernel)
theorem tw_654 : (Jvm.Cond.instanceMethod ({ cls := "PackSeedsModel", name := "count", desc := "(I)I" } : Jvm.MethodName)) ∈ Gall := gw 694 (by decide +kernel) (by decide +kernel)
theorem tw_655 : (Jvm.Cond.selects "PackSeedsModel" ({ cls := "PackSeedsModel", name := "count", desc := "(I)I" } : Jvm.MethodName) ({ cls := "PackSeedsModel", name := "count", desc := "(I)I" } : Jvm.MethodName)) ∈ Gall := gw 695 (by decide +kernel) (by decide +kernel)
theorem tw_656 : (Jvm.Cond.code ({ cls := "PackSeedsModel", name := "count", desc := "(I)I" } : Jvm.MethodName) prog_6_method_32_code (5 : Nat) (Option.some Jvm.ClassFile.FieldType.int)) ∈ Gall := gw 696 (by decide +kernel) (by decide +kernel)
theorem ts_0 : Cond.selects "PackSeeds" ⟨"PackSeeds", "presentOrNull", "(I)LPackSeeds$Pattern;"⟩ ⟨"PackSeeds", "presentOrNull", "(I)LPackSeeds$Pattern;"⟩ ∈ Gall := gw 0 (by decide +kernel) (by decide +kernel)
theorem ts_1 : Cond.selects "PackSeeds" ⟨"PackSeeds", "takeFromBehind", "(LPackSeeds$Pattern;I)V"⟩ ⟨"PackSeeds", "takeFromBehind", "(LPackSeeds$Pattern;I)V"⟩ ∈ Gall := gw 1 (by decide +kernel) (by decide +kernel)
theorem ts_2 : Cond.selects "PackSeeds$Pattern" ⟨"PackSeeds$Pattern", "goesWith", "(LPackSeeds$Pattern;)Z"⟩ ⟨"PackSeeds$Pattern", "goesWith", "(LPackSeeds$Pattern;)Z"⟩ ∈ Gall := gw 2 (by decide +kernel) (by decide +kernel)
theorem ts_3 : Cond.selects "PackSeeds$Pattern" ⟨"PackSeeds$Pattern", "take", "(LPackSeeds$Pattern;)V"⟩ ⟨"PackSeeds$Pattern", "take", "(LPackSeeds$Pattern;)V"⟩ ∈ Gall := gw 3 (by decide +kernel) (by decide +kernel)
theorem ts_4 : Cond.selects "PackSeeds" ⟨"PackSeeds", "countPresent", "()I"⟩ ⟨"PackSeeds", "countPresent", "()I"⟩ ∈ Gall := gw 4 (by decide +kernel) (by decide +kernel)
theorem ts_5 : Cond.selects "PackSeeds" ⟨"PackSeeds", "faultsOfAllBut", "(I)I"⟩ ⟨"PackSeeds", "faultsOfAllBut", "(I)I"⟩ ∈ Gall := gw 5 (by decide +kernel) (by decide +kernel)
theorem ts_6 : Cond.selects "PackSeeds$Machine" ⟨"PackSeeds$Machine", "hasLongestCycle", "()Z"⟩ ⟨"PackSeeds$Machine", "hasLongestCycle", "()Z"⟩ ∈ Gall := gw 6 (by decide +kernel) (by decide +kernel)
theorem ts_7 : Cond.selects "PackSeeds$Machine" ⟨"PackSeeds$Machine", "step", "(I)I"⟩ ⟨"PackSeeds$Machine", "step", "(I)I"⟩ ∈ Gall := gw 7 (by decide +kernel) (by decide +kernel)
theorem ts_8 : Cond.selects "java/lang/Throwable" ⟨"java/lang/Throwable", "fillInStackTrace", "(I)Ljava/lang/Throwable;"⟩ ⟨"java/lang/Throwable", "fillInStackTrace", "(I)Ljava/lang/Throwable;"⟩ ∈ Gall := gw 8 (by decide +kernel) (by decide +kernel)
theorem ts_9 : Cond.selects "PackSeeds" ⟨"PackSeeds", "present", "(I)LPackSeeds$Pattern;"⟩ ⟨"PackSeeds", "present", "(I)LPackSeeds$Pattern;"⟩ ∈ Gall := gw 9 (by decide +kernel) (by decide +kernel)
theorem ts_10 : Cond.selects "PackSeeds" ⟨"PackSeeds", "existingPlace", "(II)I"⟩ ⟨"PackSeeds", "existingPlace", "(II)I"⟩ ∈ Gall := gw 10 (by decide +kernel) (by decide +kernel)
theorem ts_11 : Cond.selects "PackSeeds$Pattern" ⟨"PackSeeds$Pattern", "setCare", "(II)Z"⟩ ⟨"PackSeeds$Pattern", "setCare", "(II)Z"⟩ ∈ Gall := gw 11 (by decide +kernel) (by decide +kernel)
theorem ts_12 : Cond.selects "PackSeeds$Pattern" ⟨"PackSeeds$Pattern", "careAt", "(I)I"⟩ ⟨"PackSeeds$Pattern", "careAt", "(I)I"⟩ ∈ Gall := gw 12 (by decide +kernel) (by decide +kernel)
theorem ts_13 : Cond.selects "PackSeeds$Machine" ⟨"PackSeeds$Machine", "restart", "(I)V"⟩ ⟨"PackSeeds$Machine", "restart", "(I)V"⟩ ∈ Gall := gw 13 (by decide +kernel) (by decide +kernel)
theorem ts_14 : Cond.selects "PackSeeds" ⟨"PackSeeds", "forgetSeeds", "()V"⟩ ⟨"PackSeeds", "forgetSeeds", "()V"⟩ ∈ Gall := gw 14 (by decide +kernel) (by decide +kernel)
theorem ts_15 : Cond.selects "PackSeeds$Machine" ⟨"PackSeeds$Machine", "isTapped", "(I)Z"⟩ ⟨"PackSeeds$Machine", "isTapped", "(I)Z"⟩ ∈ Gall := gw 15 (by decide +kernel) (by decide +kernel)
theorem ts_16 : Cond.selects "PackSeeds$Machine" ⟨"PackSeeds$Machine", "turnTap", "(I)V"⟩ ⟨"PackSeeds$Machine", "turnTap", "(I)V"⟩ ∈ Gall := gw 16 (by decide +kernel) (by decide +kernel)
theorem ts_17 : Cond.selects "PackSeeds$Machine" ⟨"PackSeeds$Machine", "leastSeed", "(II)I"⟩ ⟨"PackSeeds$Machine", "leastSeed", "(II)I"⟩ ∈ Gall := gw 17 (by decide +kernel) (by decide +kernel)
theorem ts_18 : Cond.selects "PackSeeds$Machine" ⟨"PackSeeds$Machine", "make", "(I)I"⟩ ⟨"PackSeeds$Machine", "make", "(I)I"⟩ ∈ Gall := gw 18 (by decide +kernel) (by decide +kernel)
theorem ts_19 : Cond.selects "PackSeeds$Machine" ⟨"PackSeeds$Machine", "stageAround", "(I)I"⟩ ⟨"PackSeeds$Machine", "stageAround", "(I)I"⟩ ∈ Gall := gw 19 (by decide +kernel) (by decide +kernel)
theorem ts_20 : Cond.selects "PackSeeds$Machine" ⟨"PackSeeds$Machine", "reduced", "(J)J"⟩ ⟨"PackSeeds$Machine", "reduced", "(J)J"⟩ ∈ Gall := gw 20 (by decide +kernel) (by decide +kernel)
theorem ts_21 : Cond.selects "PackSeeds$Machine" ⟨"PackSeeds$Machine", "keep", "(J)V"⟩ ⟨"PackSeeds$Machine", "keep", "(J)V"⟩ ∈ Gall := gw 21 (by decide +kernel) (by decide +kernel)
theorem ts_22 : Cond.selects "PackSeeds" ⟨"PackSeeds", "bitsOf", "(LPackSeeds$Pattern;)I"⟩ ⟨"PackSeeds", "bitsOf", "(LPackSeeds$Pattern;)I"⟩ ∈ Gall := gw 22 (by decide +kernel) (by decide +kernel)
theorem ts_23 : Cond.selects "PackSeeds" ⟨"PackSeeds", "filledFromNearest", "(LPackSeeds$Pattern;)I"⟩ ⟨"PackSeeds", "filledFromNearest", "(LPackSeeds$Pattern;)I"⟩ ∈ Gall := gw 23 (by decide +kernel) (by decide +kernel)
theorem ts_24 : Cond.selects "PackSeeds" ⟨"PackSeeds", "nearestCare", "(LPackSeeds$Pattern;II)I"⟩ ⟨"PackSeeds", "nearestCare", "(LPackSeeds$Pattern;II)I"⟩ ∈ Gall := gw 24 (by decide +kernel) (by decide +kernel)
theorem ts_25 : Cond.selects "PackSeeds$Machine" ⟨"PackSeeds$Machine", "takeIn", "(II)I"⟩ ⟨"PackSeeds$Machine", "takeIn", "(II)I"⟩ ∈ Gall := gw 25 (by decide +kernel) (by decide +kernel)
theorem ts_26 : Cond.selects "PackSeeds" ⟨"PackSeeds", "countSeeded", "()I"⟩ ⟨"PackSeeds", "countSeeded", "()I"⟩ ∈ Gall := gw 26 (by decide +kernel) (by decide +kernel)
theorem ts_27 : Cond.selects "PackSeeds" ⟨"PackSeeds", "countCared", "()I"⟩ ⟨"PackSeeds", "countCared", "()I"⟩ ∈ Gall := gw 27 (by decide +kernel) (by decide +kernel)
theorem ts_28 : Cond.selects "PackSeedsModel" ⟨"PackSeedsModel", "is", "(I)Z"⟩ ⟨"PackSeedsModel", "is", "(I)Z"⟩ ∈ Gall := gw 28 (by decide +kernel) (by decide +kernel)
theorem ts_29 : Cond.selects "PackSeedsModel" ⟨"PackSeedsModel", "isCell", "(II)Z"⟩ ⟨"PackSeedsModel", "isCell", "(II)Z"⟩ ∈ Gall := gw 29 (by decide +kernel) (by decide +kernel)
theorem ts_30 : Cond.selects "PackSeedsModel" ⟨"PackSeedsModel", "place", "(III)I"⟩ ⟨"PackSeedsModel", "place", "(III)I"⟩ ∈ Gall := gw 30 (by decide +kernel) (by decide +kernel)
theorem ts_31 : Cond.selects "PackSeedsModel" ⟨"PackSeedsModel", "goTogether", "(II)Z"⟩ ⟨"PackSeedsModel", "goTogether", "(II)Z"⟩ ∈ Gall := gw 31 (by decide +kernel) (by decide +kernel)
theorem ts_32 : Cond.selects "PackSeedsModel" ⟨"PackSeedsModel", "left", "()I"⟩ ⟨"PackSeedsModel", "left", "()I"⟩ ∈ Gall := gw 32 (by decide +kernel) (by decide +kernel)
theorem ts_33 : Cond.selects "PackSeedsModel" ⟨"PackSeedsModel", "findersOf", "(I)I"⟩ ⟨"PackSeedsModel", "findersOf", "(I)I"⟩ ∈ Gall := gw 33 (by decide +kernel) (by decide +kernel)
theorem ts_34 : Cond.selects "PackSeedsModel" ⟨"PackSeedsModel", "noSeeds", "()V"⟩ ⟨"PackSeedsModel", "noSeeds", "()V"⟩ ∈ Gall := gw 34 (by decide +kernel) (by decide +kernel)
theorem ts_35 : Cond.selects "PackSeedsModel" ⟨"PackSeedsModel", "makes", "(II)Z"⟩ ⟨"PackSeedsModel", "makes", "(II)Z"⟩ ∈ Gall := gw 35 (by decide +kernel) (by decide +kernel)
theorem ts_36 : Cond.selects "PackSeedsModel" ⟨"PackSeedsModel", "step", "(I)I"⟩ ⟨"PackSeedsModel", "step", "(I)I"⟩ ∈ Gall := gw 36 (by decide +kernel) (by decide +kernel)
theorem ts_37 : Cond.selects "PackSeedsModel" ⟨"PackSeedsModel", "bitOf", "(III)I"⟩ ⟨"PackSeedsModel", "bitOf", "(III)I"⟩ ∈ Gall := gw 37 (by decide +kernel) (by decide +kernel)
theorem ts_38 : Cond.selects "PackSeedsModel" ⟨"PackSeedsModel", "brought", "(III)I"⟩ ⟨"PackSeedsModel", "brought", "(III)I"⟩ ∈ Gall := gw 38 (by decide +kernel) (by decide +kernel)
theorem ts_39 : Cond.selects "PackSeedsModel" ⟨"PackSeedsModel", "rank", "(I)I"⟩ ⟨"PackSeedsModel", "rank", "(I)I"⟩ ∈ Gall := gw 39 (by decide +kernel) (by decide +kernel)
/-- the links to private members of nest mates -/
def gNw : List Cond := [(Jvm.Cond.methodLinkNest "PackSeeds" (9 : Nat) ({ cls := "PackSeeds$Shape", name := "<init>", desc := "(II)V" } : Jvm.MethodName) "PackSeeds"), (Jvm.Cond.fieldLinkNest "PackSeeds$Machine" (37 : Nat) "PackSeeds$Shape" "chains" "I" "PackSeeds"), (Jvm.Cond.fieldLinkNest "PackSeeds" (162 : Nat) "PackSeeds$Shape" "chains" "I" "PackSeeds"), (Jvm.Cond.fieldLinkNest "PackSeeds$Machine" (32 : Nat) "PackSeeds$Shape" "cells" "I" "PackSeeds"), (Jvm.Cond.fieldLinkNest "PackSeeds" (165 : Nat) "PackSeeds$Shape" "cells" "I" "PackSeeds"), (Jvm.Cond.methodLinkNest "PackSeeds" (20 : Nat) ({ cls := "PackSeeds$Machine", name := "<init>", desc := "(LPackSeeds$Shape;)V" } : Jvm.MethodName) "PackSeeds"), (Jvm.Cond.fieldLinkNest "PackSeeds" (85 : Nat) "PackSeeds$Machine" "stages" "I" "PackSeeds"), (Jvm.Cond.methodLinkNest "PackSeeds" (190 : Nat) ({ cls := "PackSeeds$Pattern", name := "goesWith", desc := "(LPackSeeds$Pattern;)Z" } : Jvm.MethodName) "PackSeeds"), (Jvm.Cond.methodLinkNest "PackSeeds" (194 : Nat) ({ cls := "PackSeeds$Pattern", name := "take", desc := "(LPackSeeds$Pattern;)V" } : Jvm.MethodName) "PackSeeds"), (Jvm.Cond.methodLinkNest "PackSeeds" (145 : Nat) ({ cls := "PackSeeds$Machine", name := "hasLongestCycle", desc := "()Z" } : Jvm.MethodName) "PackSeeds"), (Jvm.Cond.castable "java/lang/UnsupportedOperationException" "java/lang/UnsupportedOperationException"), (Jvm.Cond.declares ({ cls := "java/lang/RuntimeException", name := "<init>", desc := "()V" } : Jvm.MethodName)), (Jvm.Cond.declares ({ cls := "java/lang/RuntimeException", name := "<init>", desc := "(Ljava/lang/String;)V" } : Jvm.MethodName)), (Jvm.Cond.declares ({ cls := "java/lang/Exception", name := "<init>", desc := "()V" } : Jvm.MethodName)), (Jvm.Cond.declares ({ cls := "java/lang/Exception", name := "<init>", desc := "(Ljava/lang/String;)V" } : Jvm.MethodName)), (Jvm.Cond.declares ({ cls := "java/lang/Throwable", name := "<init>", desc := "()V" } : Jvm.MethodName)), (Jvm.Cond.declares ({ cls := "java/lang/Throwable", name := "<init>", desc := "(Ljava/lang/String;)V" } : Jvm.MethodName)), (Jvm.Cond.methodLinkNest "PackSeeds" (47 : Nat) ({ cls := "PackSeeds$Pattern", name := "<init>", desc := "()V" } : Jvm.MethodName) "PackSeeds"), (Jvm.Cond.fieldLinkNest "PackSeeds" (102 : Nat) "PackSeeds$Pattern" "cared" "I" "PackSeeds"), (Jvm.Cond.fieldLinkNest "PackSeeds" (105 : Nat) "PackSeeds$Pattern" "values" "I" "PackSeeds"), (Jvm.Cond.fieldLinkNest "PackSeeds" (132 : Nat) "PackSeeds$Pattern" "masked" "I" "PackSeeds"), (Jvm.Cond.fieldLinkNest "PackSeeds" (122 : Nat) "PackSeeds$Pattern" "faults" "I" "PackSeeds"), (Jvm.Cond.fieldLinkNest "PackSeeds" (111 : Nat) "PackSeeds$Pattern" "seed" "I" "PackSeeds"), (Jvm.Cond.fieldLinkNest "PackSeeds" (128 : Nat) "PackSeeds$Pattern" "gone" "Z" "PackSeeds"), (Jvm.Cond.castable "java/lang/IndexOutOfBoundsException" "java/lang/IndexOutOfBoundsException"), (Jvm.Cond.castable "java/lang/IllegalArgumentException" "java/lang/IllegalArgumentException"), (Jvm.Cond.methodLinkNest "PackSeeds" (61 : Nat) ({ cls := "PackSeeds$Pattern", name := "setCare", desc := "(II)Z" } : Jvm.MethodName) "PackSeeds"), (Jvm.Cond.methodLinkNest "PackSeeds" (78 : Nat) ({ cls := "PackSeeds$Machine", name := "restart", desc := "(I)V" } : Jvm.MethodName) "PackSeeds"), (Jvm.Cond.methodLinkNest "PackSeeds" (95 : Nat) ({ cls := "PackSeeds$Machine", name := "isTapped", desc := "(I)Z" } : Jvm.MethodName) "PackSeeds"), (Jvm.Cond.methodLinkNest "PackSeeds" (99 : Nat) ({ cls := "PackSeeds$Machine", name := "turnTap", desc := "(I)V" } : Jvm.MethodName) "PackSeeds"), (Jvm.Cond.methodLinkNest "PackSeeds" (108 : Nat) ({ cls := "PackSeeds$Machine", name := "leastSeed", desc := "(II)I" } : Jvm.MethodName) "PackSeeds"), (Jvm.Cond.methodLinkNest "PackSeeds$Machine" (43 : Nat) ({ cls := "PackSeeds", name := "place", desc := "(II)I" } : Jvm.MethodName) "PackSeeds"), (Jvm.Cond.methodLinkNest "PackSeeds" (198 : Nat) ({ cls := "PackSeeds$Machine", name := "make", desc := "(I)I" } : Jvm.MethodName) "PackSeeds"), (Jvm.Cond.methodLinkNest "PackSeeds" (208 : Nat) ({ cls := "PackSeeds$Pattern", name := "careAt", desc := "(I)I" } : Jvm.MethodName) "PackSeeds"), (Jvm.Cond.methodLinkNest "PackSeeds" (142 : Nat) ({ cls := "PackSeeds$Machine", name := "takeIn", desc := "(II)I" } : Jvm.MethodName) "PackSeeds")]
def gNest (U : State) : Prop := ∀ w ∈ gNw, va_Nw w U
theorem gNw_in : ∀ w ∈ gNw, w ∈ lw_tbl := by decide +kernel
theorem gNw_on : ∀ w ∈ gNw, w.onTables = true := by decide +kernel
theorem gNest.warm {s U : State} (hW : s.WarmedH U.vm) (h : gNest s) : gNest U := by
  intro w hw
  have h1 := h w hw
  simp only [gNw, List.mem_cons, List.not_mem_nil, or_false] at hw
  rcases hw with rfl | rfl | rfl | rfl | rfl | rfl | rfl | rfl | rfl | rfl | rfl | rfl | rfl | rfl | rfl | rfl | rfl | rfl | rfl | rfl | rfl | rfl | rfl | rfl | rfl | rfl | rfl | rfl | rfl | rfl | rfl | rfl | rfl | rfl | rfl <;> first | exact va_Nw.warmF hW h1 | exact va_Nw.warmM hW h1 | exact va_Nw.warmD hW h1 | exact va_Nw.warmC hW h1
theorem gNest.same {s U : State} (hv : s.vm = U.vm) (h : gNest s) : gNest U := fun w hw => va_Nw.same (gNw_on w hw) hv (h w hw)
theorem nw_0 : (Jvm.Cond.methodLinkNest "PackSeeds" (9 : Nat) ({ cls := "PackSeeds$Shape", name := "<init>", desc := "(II)V" } : Jvm.MethodName) "PackSeeds") ∈ gNw := List.mem_of_getElem? (i := 0) (by decide +kernel)
theorem nw_1 : (Jvm.Cond.fieldLinkNest "PackSeeds$Machine" (37 : Nat) "PackSeeds$Shape" "chains" "I" "PackSeeds") ∈ gNw := List.mem_of_getElem? (i := 1) (by decide +kernel)
theorem nw_2 : (Jvm.Cond.fieldLinkNest "PackSeeds" (162 : Nat) "PackSeeds$Shape" "chains" "I" "PackSeeds") ∈ gNw := List.mem_of_getElem? (i := 2) (by decide +kernel)
theorem nw_3 : (Jvm.Cond.fieldLinkNest "PackSeeds$Machine" (32 : Nat) "PackSeeds$Shape" "cells" "I" "PackSeeds") ∈ gNw := List.mem_of_getElem? (i := 3) (by decide +kernel)
theorem nw_4 : (Jvm.Cond.fieldLinkNest "PackSeeds" (165 : Nat) "PackSeeds$Shape" "cells" "I" "PackSeeds") ∈ gNw := List.mem_of_getElem? (i := 4) (by decide +kernel)
theorem nw_5 : (Jvm.Cond.methodLinkNest "PackSeeds" (20 : Nat) ({ cls := "PackSeeds$Machine", name := "<init>", desc := "(LPackSeeds$Shape;)V" } : Jvm.MethodName) "PackSeeds") ∈ gNw := List.mem_of_getElem? (i := 5) (by decide +kernel)
theorem nw_6 : (Jvm.Cond.fieldLinkNest "PackSeeds" (85 : Nat) "PackSeeds$Machine" "stages" "I" "PackSeeds") ∈ gNw := List.mem_of_getElem? (i := 6) (by decide +kernel)
theorem nw_7 : (Jvm.Cond.methodLinkNest "PackSeeds" (190 : Nat) ({ cls := "PackSeeds$Pattern", name := "goesWith", desc := "(LPackSeeds$Pattern;)Z" } : Jvm.MethodName) "PackSeeds") ∈ gNw := List.mem_of_getElem? (i := 7) (by decide +kernel)
theorem nw_8 : (Jvm.Cond.methodLinkNest "PackSeeds" (194 : Nat) ({ cls := "PackSeeds$Pattern", name := "take", desc := "(LPackSeeds$Pattern;)V" } : Jvm.MethodName) "PackSeeds") ∈ gNw := List.mem_of_getElem? (i := 8) (by decide +kernel)
theorem nw_9 : (Jvm.Cond.methodLinkNest "PackSeeds" (145 : Nat) ({ cls := "PackSeeds$Machine", name := "hasLongestCycle", desc := "()Z" } : Jvm.MethodName) "PackSeeds") ∈ gNw := List.mem_of_getElem? (i := 9) (by decide +kernel)
theorem nw_10 : (Jvm.Cond.castable "java/lang/UnsupportedOperationException" "java/lang/UnsupportedOperationException") ∈ gNw := List.mem_of_getElem? (i := 10) (by decide +kernel)
theorem nw_11 : (Jvm.Cond.declares ({ cls := "java/lang/RuntimeException", name := "<init>", desc := "()V" } : Jvm.MethodName)) ∈ gNw := List.mem_of_getElem? (i := 11) (by decide +kernel)
theorem nw_12 : (Jvm.Cond.declares ({ cls := "java/lang/RuntimeException", name := "<init>", desc := "(Ljava/lang/String;)V" } : Jvm.MethodName)) ∈ gNw := List.mem_of_getElem? (i := 12) (by decide +kernel)
theorem nw_13 : (Jvm.Cond.declares ({ cls := "java/lang/Exception", name := "<init>", desc := "()V" } : Jvm.MethodName)) ∈ gNw := List.mem_of_getElem? (i := 13) (by decide +kernel)
theorem nw_14 : (Jvm.Cond.declares ({ cls := "java/lang/Exception", name := "<init>", desc := "(Ljava/lang/String;)V" } : Jvm.MethodName)) ∈ gNw := List.mem_of_getElem? (i := 14) (by decide +kernel)
theorem nw_15 : (Jvm.Cond.declares ({ cls := "java/lang/Throwable", name := "<init>", desc := "()V" } : Jvm.MethodName)) ∈ gNw := List.mem_of_getElem? (i := 15) (by decide +kernel)
theorem nw_16 : (Jvm.Cond.declares ({ cls := "java/lang/Throwable", name := "<init>", desc := "(Ljava/lang/String;)V" } : Jvm.MethodName)) ∈ gNw := List.mem_of_getElem? (i := 16) (by decide +kernel)
theorem nw_17 : (Jvm.Cond.methodLinkNest "PackSeeds" (47 : Nat) ({ cls := "PackSeeds$Pattern", name := "<init>", desc := "()V" } : Jvm.MethodName) "PackSeeds") ∈ gNw := List.mem_of_getElem? (i := 17) (by decide +kernel)
theorem nw_18 : (Jvm.Cond.fieldLinkNest "PackSeeds" (102 : Nat) "PackSeeds$Pattern" "cared" "I" "PackSeeds") ∈ gNw := List.mem_of_getElem? (i := 18) (by decide +kernel)
theorem nw_19 : (Jvm.Cond.fieldLinkNest "PackSeeds" (105 : Nat) "PackSeeds$Pattern" "values" "I" "PackSeeds") ∈ gNw := List.mem_of_getElem? (i := 19) (by decide +kernel)
theorem nw_20 : (Jvm.Cond.fieldLinkNest "PackSeeds" (132 : Nat) "PackSeeds$Pattern" "masked" "I" "PackSeeds") ∈ gNw := List.mem_of_getElem? (i := 20) (by decide +kernel)
theorem nw_21 : (Jvm.Cond.fieldLinkNest "PackSeeds" (122 : Nat) "PackSeeds$Pattern" "faults" "I" "PackSeeds") ∈ gNw := List.mem_of_getElem? (i := 21) (by decide +kernel)
theorem nw_22 : (Jvm.Cond.fieldLinkNest "PackSeeds" (111 : Nat) "PackSeeds$Pattern" "seed" "I" "PackSeeds") ∈ gNw := List.mem_of_getElem? (i := 22) (by decide +kernel)
theorem nw_23 : (Jvm.Cond.fieldLinkNest "PackSeeds" (128 : Nat) "PackSeeds$Pattern" "gone" "Z" "PackSeeds") ∈ gNw := List.mem_of_getElem? (i := 23) (by decide +kernel)
theorem nw_24 : (Jvm.Cond.castable "java/lang/IndexOutOfBoundsException" "java/lang/IndexOutOfBoundsException") ∈ gNw := List.mem_of_getElem? (i := 24) (by decide +kernel)
theorem nw_25 : (Jvm.Cond.castable "java/lang/IllegalArgumentException" "java/lang/IllegalArgumentException") ∈ gNw := List.mem_of_getElem? (i := 25) (by decide +kernel)
theorem nw_26 : (Jvm.Cond.methodLinkNest "PackSeeds" (61 : Nat) ({ cls := "PackSeeds$Pattern", name := "setCare", desc := "(II)Z" } : Jvm.MethodName) "PackSeeds") ∈ gNw := List.mem_of_getElem? (i := 26) (by decide +kernel)
theorem nw_27 : (Jvm.Cond.methodLinkNest "PackSeeds" (78 : Nat) ({ cls := "PackSeeds$Machine", name := "restart", desc := "(I)V" } : Jvm.MethodName) "PackSeeds") ∈ gNw := List.mem_of_getElem? (i := 27) (by decide +kernel)
theorem nw_28 : (Jvm.Cond.methodLinkNest "PackSeeds" (95 : Nat) ({ cls := "PackSeeds$Machine", name := "isTapped", desc := "(I)Z" } : Jvm.MethodName) "PackSeeds") ∈ gNw := List.mem_of_getElem? (i := 28) (by decide +kernel)
theorem nw_29 : (Jvm.Cond.methodLinkNest "PackSeeds" (99 : Nat) ({ cls := "PackSeeds$Machine", name := "turnTap", desc := "(I)V" } : Jvm.MethodName) "PackSeeds") ∈ gNw := List.mem_of_getElem? (i := 29) (by decide +kernel)
theorem nw_30 : (Jvm.Cond.methodLinkNest "PackSeeds" (108 : Nat) ({ cls := "PackSeeds$Machine", name := "leastSeed", desc := "(II)I" } : Jvm.MethodName) "PackSeeds") ∈ gNw := List.mem_of_getElem? (i := 30) (by decide +kernel)
theorem nw_31 : (Jvm.Cond.methodLinkNest "PackSeeds$Machine" (43 : Nat) ({ cls := "PackSeeds", name := "place", desc := "(II)I" } : Jvm.MethodName) "PackSeeds") ∈ gNw := List.mem_of_getElem? (i := 31) (by decide +kernel)
theorem nw_32 : (Jvm.Cond.methodLinkNest "PackSeeds" (198 : Nat) ({ cls := "PackSeeds$Machine", name := "make", desc := "(I)I" } : Jvm.MethodName) "PackSeeds") ∈ gNw := List.mem_of_getElem? (i := 32) (by decide +kernel)
theorem nw_33 : (Jvm.Cond.methodLinkNest "PackSeeds" (208 : Nat) ({ cls := "PackSeeds$Pattern", name := "careAt", desc := "(I)I" } : Jvm.MethodName) "PackSeeds") ∈ gNw := List.mem_of_getElem? (i := 33) (by decide +kernel)
theorem nw_34 : (Jvm.Cond.methodLinkNest "PackSeeds" (142 : Nat) ({ cls := "PackSeeds$Machine", name := "takeIn", desc := "(II)I" } : Jvm.MethodName) "PackSeeds") ∈ gNw := List.mem_of_getElem? (i := 34) (by decide +kernel)
-- classes and their fields
def F_ps : u_T := fun k => match k with
  | 0 => ("PackSeeds", "shape", "LPackSeeds$Shape;", true)
  | 1 => ("PackSeeds", "machine", "LPackSeeds$Machine;", true)
  | 2 => ("PackSeeds", "patterns", "[LPackSeeds$Pattern;", true)
  | 3 => ("PackSeeds", "made", "I", false)
  | _ => ("PackSeeds", "fillKind", "I", false)
def ty_ps : Nat → FieldType := fun k => match k with
  | 0 => .object "PackSeeds$Shape"
  | 1 => .object "PackSeeds$Machine"
  | 2 => .array (.object "PackSeeds$Pattern")
  | 3 => .int
  | _ => .int
theorem nm_ps : ∀ a, a < 5 → ∀ b, b < 5 → a ≠ b → (F_ps a).2.1 ≠ (F_ps b).2.1 := by decide +kernel
theorem tyok_ps : ∀ k, k < 5 → parseFieldDescriptor (F_ps k).2.2.1 = some (ty_ps k) := by decide +kernel
theorem in_ps : ∀ w ∈ u_ws "PackSeeds" F_ps 5, w ∈ Gall := by decide +kernel
def F_sh : u_T := fun k => match k with
  | 0 => ("PackSeeds$Shape", "chains", "I", true)
  | _ => ("PackSeeds$Shape", "cells", "I", true)
def ty_sh : Nat → FieldType := fun k => match k with
  | 0 => .int
  | _ => .int
theorem nm_sh : ∀ a, a < 2 → ∀ b, b < 2 → a ≠ b → (F_sh a).2.1 ≠ (F_sh b).2.1 := by decide +kernel
theorem tyok_sh : ∀ k, k < 2 → parseFieldDescriptor (F_sh k).2.2.1 = some (ty_sh k) := by decide +kernel
theorem in_sh : ∀ w ∈ u_ws "PackSeeds$Shape" F_sh 2, w ∈ Gall := by decide +kernel
def F_ma : u_T := fun k => match k with
  | 0 => ("PackSeeds$Machine", "shape", "LPackSeeds$Shape;", true)
  | 1 => ("PackSeeds$Machine", "rows", "[J", true)
  | 2 => ("PackSeeds$Machine", "stages", "I", false)
  | _ => ("PackSeeds$Machine", "taps", "I", false)
def ty_ma : Nat → FieldType := fun k => match k with
  | 0 => .object "PackSeeds$Shape"
  | 1 => .array .long
  | 2 => .int
  | _ => .int
theorem nm_ma : ∀ a, a < 4 → ∀ b, b < 4 → a ≠ b → (F_ma a).2.1 ≠ (F_ma b).2.1 := by decide +kernel
theorem tyok_ma : ∀ k, k < 4 → parseFieldDescriptor (F_ma k).2.2.1 = some (ty_ma k) := by decide +kernel
theorem in_ma : ∀ w ∈ u_ws "PackSeeds$Machine" F_ma 4, w ∈ Gall := by decide +kernel
def F_pt : u_T := fun k => match k with
  | 0 => ("PackSeeds$Pattern", "cared", "I", false)
  | 1 => ("PackSeeds$Pattern", "values", "I", false)
  | 2 => ("PackSeeds$Pattern", "masked", "I", false)
  | 3 => ("PackSeeds$Pattern", "faults", "I", false)
  | 4 => ("PackSeeds$Pattern", "seed", "I", false)
  | _ => ("PackSeeds$Pattern", "gone", "Z", false)
def ty_pt : Nat → FieldType := fun k => match k with
  | 0 => .int
  | 1 => .int
  | 2 => .int
  | 3 => .int
  | 4 => .int
  | _ => .boolean
theorem nm_pt : ∀ a, a < 6 → ∀ b, b < 6 → a ≠ b → (F_pt a).2.1 ≠ (F_pt b).2.1 := by decide +kernel
theorem tyok_pt : ∀ k, k < 6 → parseFieldDescriptor (F_pt k).2.2.1 = some (ty_pt k) := by decide +kernel
theorem in_pt : ∀ w ∈ u_ws "PackSeeds$Pattern" F_pt 6, w ∈ Gall := by decide +kernel
def F_mo : u_T := fun k => match k with
  | 0 => ("PackSeedsModel", "thrown", "I", false)
  | 1 => ("PackSeedsModel", "chains", "I", true)
  | 2 => ("PackSeedsModel", "length", "I", true)
  | 3 => ("PackSeedsModel", "cares", "[I", true)
  | 4 => ("PackSeedsModel", "masks", "[Z", true)
  | 5 => ("PackSeedsModel", "faults", "[Z", true)
  | 6 => ("PackSeedsModel", "gone", "[Z", true)
  | 7 => ("PackSeedsModel", "seeds", "[I", true)
  | 8 => ("PackSeedsModel", "patterns", "I", false)
  | 9 => ("PackSeedsModel", "degree", "I", false)
  | 10 => ("PackSeedsModel", "taps", "[Z", true)
  | 11 => ("PackSeedsModel", "filling", "I", false)
  | _ => ("PackSeedsModel", "basis", "[I", true)
def ty_mo : Nat → FieldType := fun k => match k with
  | 0 => .int
  | 1 => .int
  | 2 => .int
  | 3 => .array .int
  | 4 => .array .boolean
  | 5 => .array .boolean
  | 6 => .array .boolean
  | 7 => .array .int
  | 8 => .int
  | 9 => .int
  | 10 => .array .boolean
  | 11 => .int
  | _ => .array .int
theorem nm_mo : ∀ a, a < 13 → ∀ b, b < 13 → a ≠ b → (F_mo a).2.1 ≠ (F_mo b).2.1 := by decide +kernel
theorem tyok_mo : ∀ k, k < 13 → parseFieldDescriptor (F_mo k).2.2.1 = some (ty_mo k) := by decide +kernel
theorem in_mo : ∀ w ∈ u_ws "PackSeedsModel" F_mo 13, w ∈ Gall := by decide +kernel
abbrev cls : List vw_C := [("PackSeeds", F_ps, 5), ("PackSeeds$Shape", F_sh, 2), ("PackSeeds$Machine", F_ma, 4), ("PackSeeds$Pattern", F_pt, 6), ("PackSeedsModel", F_mo, 13)]
-- methods
abbrev b_ps_init : ByteArray := prog_1_method_1_code
abbrev y_ps_init : MethodName := ⟨"PackSeeds", "<init>", "(II)V"⟩
abbrev wd_ps_init : Cond := .code y_ps_init b_ps_init 3 none
theorem k_ps_init : wd_ps_init ∈ Gall := tw_18
abbrev b_ps_pattern : ByteArray := prog_1_method_2_code
abbrev y_ps_pattern : MethodName := ⟨"PackSeeds", "pattern", "()I"⟩
abbrev wd_ps_pattern : Cond := .code y_ps_pattern b_ps_pattern 2 (some .int)
theorem k_ps_pattern : wd_ps_pattern ∈ Gall := tw_145
abbrev b_ps_care : ByteArray := prog_1_method_3_code
abbrev y_ps_care : MethodName := ⟨"PackSeeds", "care", "(IIII)Z"⟩
abbrev wd_ps_care : Cond := .code y_ps_care b_ps_care 7 (some .boolean)
theorem k_ps_care : wd_ps_care ∈ Gall := tw_251
abbrev b_ps_join : ByteArray := prog_1_method_4_code
abbrev y_ps_join : MethodName := ⟨"PackSeeds", "join", "()I"⟩
abbrev wd_ps_join : Cond := .code y_ps_join b_ps_join 3 (some .int)
theorem k_ps_join : wd_ps_join ∈ Gall := tw_87
abbrev b_ps_degree : ByteArray := prog_1_method_5_code
abbrev y_ps_degree : MethodName := ⟨"PackSeeds", "degree", "(I)V"⟩
abbrev wd_ps_degree : Cond := .code y_ps_degree b_ps_degree 2 none
theorem k_ps_degree : wd_ps_degree ∈ Gall := tw_310
abbrev b_ps_machine : ByteArray := prog_1_method_6_code
abbrev y_ps_machine : MethodName := ⟨"PackSeeds", "machine", "(IZ)Z"⟩
abbrev wd_ps_machine : Cond := .code y_ps_machine b_ps_machine 3 (some .boolean)
theorem k_ps_machine : wd_ps_machine ∈ Gall := tw_326
abbrev b_ps_seed : ByteArray := prog_1_method_7_code
abbrev y_ps_seed : MethodName := ⟨"PackSeeds", "seed", "(I)I"⟩
abbrev wd_ps_seed : Cond := .code y_ps_seed b_ps_seed 3 (some .int)
theorem k_ps_seed : wd_ps_seed ∈ Gall := tw_343
abbrev b_ps_seedOf : ByteArray := prog_1_method_8_code
abbrev y_ps_seedOf : MethodName := ⟨"PackSeeds", "seedOf", "(I)I"⟩
abbrev wd_ps_seedOf : Cond := .code y_ps_seedOf b_ps_seedOf 2 (some .int)
theorem k_ps_seedOf : wd_ps_seedOf ∈ Gall := tw_377
abbrev b_ps_bit : ByteArray := prog_1_method_9_code
abbrev y_ps_bit : MethodName := ⟨"PackSeeds", "bit", "(III)I"⟩
abbrev wd_ps_bit : Cond := .code y_ps_bit b_ps_bit 6 (some .int)
theorem k_ps_bit : wd_ps_bit ∈ Gall := tw_384
abbrev b_ps_found : ByteArray := prog_1_method_10_code
abbrev y_ps_found : MethodName := ⟨"PackSeeds", "found", "(II)Z"⟩
abbrev wd_ps_found : Cond := .code y_ps_found b_ps_found 6 (some .boolean)
theorem k_ps_found : wd_ps_found ∈ Gall := tw_405
abbrev b_ps_drop : ByteArray := prog_1_method_11_code
abbrev y_ps_drop : MethodName := ⟨"PackSeeds", "drop", "()I"⟩
abbrev wd_ps_drop : Cond := .code y_ps_drop b_ps_drop 3 (some .int)
theorem k_ps_drop : wd_ps_drop ∈ Gall := tw_112
abbrev b_ps_finders : ByteArray := prog_1_method_12_code
abbrev y_ps_finders : MethodName := ⟨"PackSeeds", "finders", "(I)I"⟩
abbrev wd_ps_finders : Cond := .code y_ps_finders b_ps_finders 6 (some .int)
theorem k_ps_finders : wd_ps_finders ∈ Gall := tw_416
abbrev b_ps_mask : ByteArray := prog_1_method_13_code
abbrev y_ps_mask : MethodName := ⟨"PackSeeds", "mask", "(III)Z"⟩
abbrev wd_ps_mask : Cond := .code y_ps_mask b_ps_mask 7 (some .boolean)
theorem k_ps_mask : wd_ps_mask ∈ Gall := tw_423
abbrev b_ps_signature : ByteArray := prog_1_method_14_code
abbrev y_ps_signature : MethodName := ⟨"PackSeeds", "signature", "(II)J"⟩
abbrev wd_ps_signature : Cond := .code y_ps_signature b_ps_signature 7 (some .long)
theorem k_ps_signature : wd_ps_signature ∈ Gall := tw_430
abbrev b_ps_primitive : ByteArray := prog_1_method_15_code
abbrev y_ps_primitive : MethodName := ⟨"PackSeeds", "primitive", "()Z"⟩
abbrev wd_ps_primitive : Cond := .code y_ps_primitive b_ps_primitive 1 (some .boolean)
theorem k_ps_primitive : wd_ps_primitive ∈ Gall := tw_120
abbrev b_ps_alias : ByteArray := prog_1_method_16_code
abbrev y_ps_alias : MethodName := ⟨"PackSeeds", "alias", "(II)J"⟩
abbrev wd_ps_alias : Cond := .code y_ps_alias b_ps_alias 8 (some .long)
theorem k_ps_alias : wd_ps_alias ∈ Gall := tw_443
abbrev b_ps_fill : ByteArray := prog_1_method_17_code
abbrev y_ps_fill : MethodName := ⟨"PackSeeds", "fill", "(I)Z"⟩
abbrev wd_ps_fill : Cond := .code y_ps_fill b_ps_fill 3 (some .boolean)
theorem k_ps_fill : wd_ps_fill ∈ Gall := tw_459
abbrev b_ps_shifts : ByteArray := prog_1_method_18_code
abbrev y_ps_shifts : MethodName := ⟨"PackSeeds", "shifts", "(I)J"⟩
abbrev wd_ps_shifts : Cond := .code y_ps_shifts b_ps_shifts 9 (some .long)
theorem k_ps_shifts : wd_ps_shifts ∈ Gall := tw_467
abbrev b_ps_count : ByteArray := prog_1_method_19_code
abbrev y_ps_count : MethodName := ⟨"PackSeeds", "count", "(I)I"⟩
abbrev wd_ps_count : Cond := .code y_ps_count b_ps_count 2 (some .int)
theorem k_ps_count : wd_ps_count ∈ Gall := tw_474
abbrev b_ps_presentOrNull : ByteArray := prog_1_method_20_code
abbrev y_ps_presentOrNull : MethodName := ⟨"PackSeeds", "presentOrNull", "(I)LPackSeeds$Pattern;"⟩
abbrev wd_ps_presentOrNull : Cond := .code y_ps_presentOrNull b_ps_presentOrNull 3 (some (.object "PackSeeds$Pattern"))
theorem k_ps_presentOrNull : wd_ps_presentOrNull ∈ Gall := tw_91
abbrev b_ps_present : ByteArray := prog_1_method_21_code
abbrev y_ps_present : MethodName := ⟨"PackSeeds", "present", "(I)LPackSeeds$Pattern;"⟩
abbrev wd_ps_present : Cond := .code y_ps_present b_ps_present 3 (some (.object "PackSeeds$Pattern"))
theorem k_ps_present : wd_ps_present ∈ Gall := tw_255
abbrev b_ps_existingPlace : ByteArray := prog_1_method_22_code
abbrev y_ps_existingPlace : MethodName := ⟨"PackSeeds", "existingPlace", "(II)I"⟩
abbrev wd_ps_existingPlace : Cond := .code y_ps_existingPlace b_ps_existingPlace 3 (some .int)
theorem k_ps_existingPlace : wd_ps_existingPlace ∈ Gall := tw_275
abbrev b_ps_existingFault : ByteArray := prog_1_method_23_code
abbrev y_ps_existingFault : MethodName := ⟨"PackSeeds", "existingFault", "(I)I"⟩
abbrev wd_ps_existingFault : Cond := .code y_ps_existingFault b_ps_existingFault 1 (some .int)
theorem k_ps_existingFault : wd_ps_existingFault ∈ Gall := tw_408
abbrev b_ps_place : ByteArray := prog_1_method_24_code
abbrev y_ps_place : MethodName := ⟨"PackSeeds", "place", "(II)I"⟩
abbrev wd_ps_place : Cond := .code y_ps_place b_ps_place 2 (some .int)
theorem k_ps_place : wd_ps_place ∈ Gall := tw_279
abbrev b_ps_takeFromBehind : ByteArray := prog_1_method_25_code
abbrev y_ps_takeFromBehind : MethodName := ⟨"PackSeeds", "takeFromBehind", "(LPackSeeds$Pattern;I)V"⟩
abbrev wd_ps_takeFromBehind : Cond := .code y_ps_takeFromBehind b_ps_takeFromBehind 5 none
theorem k_ps_takeFromBehind : wd_ps_takeFromBehind ∈ Gall := tw_95
abbrev b_ps_forgetSeeds : ByteArray := prog_1_method_26_code
abbrev y_ps_forgetSeeds : MethodName := ⟨"PackSeeds", "forgetSeeds", "()V"⟩
abbrev wd_ps_forgetSeeds : Cond := .code y_ps_forgetSeeds b_ps_forgetSeeds 3 none
theorem k_ps_forgetSeeds : wd_ps_forgetSeeds ∈ Gall := tw_319
abbrev b_ps_faultsOfAllBut : ByteArray := prog_1_method_27_code
abbrev y_ps_faultsOfAllBut : MethodName := ⟨"PackSeeds", "faultsOfAllBut", "(I)I"⟩
abbrev wd_ps_faultsOfAllBut : Cond := .code y_ps_faultsOfAllBut b_ps_faultsOfAllBut 5 (some .int)
theorem k_ps_faultsOfAllBut : wd_ps_faultsOfAllBut ∈ Gall := tw_116
abbrev b_ps_countPresent : ByteArray := prog_1_method_28_code
abbrev y_ps_countPresent : MethodName := ⟨"PackSeeds", "countPresent", "()I"⟩
abbrev wd_ps_countPresent : Cond := .code y_ps_countPresent b_ps_countPresent 3 (some .int)
theorem k_ps_countPresent : wd_ps_countPresent ∈ Gall := tw_108
abbrev b_ps_countSeeded : ByteArray := prog_1_method_29_code
abbrev y_ps_countSeeded : MethodName := ⟨"PackSeeds", "countSeeded", "()I"⟩
abbrev wd_ps_countSeeded : Cond := .code y_ps_countSeeded b_ps_countSeeded 4 (some .int)
theorem k_ps_countSeeded : wd_ps_countSeeded ∈ Gall := tw_478
abbrev b_ps_countCared : ByteArray := prog_1_method_30_code
abbrev y_ps_countCared : MethodName := ⟨"PackSeeds", "countCared", "()I"⟩
abbrev wd_ps_countCared : Cond := .code y_ps_countCared b_ps_countCared 4 (some .int)
theorem k_ps_countCared : wd_ps_countCared ∈ Gall := tw_482
abbrev b_ps_bitsOf : ByteArray := prog_1_method_31_code
abbrev y_ps_bitsOf : MethodName := ⟨"PackSeeds", "bitsOf", "(LPackSeeds$Pattern;)I"⟩
abbrev wd_ps_bitsOf : Cond := .code y_ps_bitsOf b_ps_bitsOf 2 (some .int)
theorem k_ps_bitsOf : wd_ps_bitsOf ∈ Gall := tw_388
abbrev b_ps_filledFromNearest : ByteArray := prog_1_method_32_code
abbrev y_ps_filledFromNearest : MethodName := ⟨"PackSeeds", "filledFromNearest", "(LPackSeeds$Pattern;)I"⟩
abbrev wd_ps_filledFromNearest : Cond := .code y_ps_filledFromNearest b_ps_filledFromNearest 5 (some .int)
theorem k_ps_filledFromNearest : wd_ps_filledFromNearest ∈ Gall := tw_393
abbrev b_ps_nearestCare : ByteArray := prog_1_method_33_code
abbrev y_ps_nearestCare : MethodName := ⟨"PackSeeds", "nearestCare", "(LPackSeeds$Pattern;II)I"⟩
abbrev wd_ps_nearestCare : Cond := .code y_ps_nearestCare b_ps_nearestCare 6 (some .int)
theorem k_ps_nearestCare : wd_ps_nearestCare ∈ Gall := tw_397
abbrev b_ps_greatestDivisor : ByteArray := prog_1_method_34_code
abbrev y_ps_greatestDivisor : MethodName := ⟨"PackSeeds", "greatestDivisor", "(JJ)J"⟩
abbrev wd_ps_greatestDivisor : Cond := .code y_ps_greatestDivisor b_ps_greatestDivisor 11 (some .long)
theorem k_ps_greatestDivisor : wd_ps_greatestDivisor ∈ Gall := tw_449
abbrev b_mo_init : ByteArray := prog_6_method_1_code
abbrev y_mo_init : MethodName := ⟨"PackSeedsModel", "<init>", "(II)V"⟩
abbrev wd_mo_init : Cond := .code y_mo_init b_mo_init 3 none
theorem k_mo_init : wd_mo_init ∈ Gall := tw_489
abbrev b_mo_thrown : ByteArray := prog_6_method_2_code
abbrev y_mo_thrown : MethodName := ⟨"PackSeedsModel", "thrown", "()I"⟩
abbrev wd_mo_thrown : Cond := .code y_mo_thrown b_mo_thrown 1 (some .int)
theorem k_mo_thrown : wd_mo_thrown ∈ Gall := tw_536
abbrev b_mo_is : ByteArray := prog_6_method_3_code
abbrev y_mo_is : MethodName := ⟨"PackSeedsModel", "is", "(I)Z"⟩
abbrev wd_mo_is : Cond := .code y_mo_is b_mo_is 2 (some .boolean)
theorem k_mo_is : wd_mo_is ∈ Gall := tw_548
abbrev b_mo_isCell : ByteArray := prog_6_method_4_code
abbrev y_mo_isCell : MethodName := ⟨"PackSeedsModel", "isCell", "(II)Z"⟩
abbrev wd_mo_isCell : Cond := .code y_mo_isCell b_mo_isCell 3 (some .boolean)
theorem k_mo_isCell : wd_mo_isCell ∈ Gall := tw_552
abbrev b_mo_place : ByteArray := prog_6_method_5_code
abbrev y_mo_place : MethodName := ⟨"PackSeedsModel", "place", "(III)I"⟩
abbrev wd_mo_place : Cond := .code y_mo_place b_mo_place 4 (some .int)
theorem k_mo_place : wd_mo_place ∈ Gall := tw_556
abbrev b_mo_pattern : ByteArray := prog_6_method_6_code
abbrev y_mo_pattern : MethodName := ⟨"PackSeedsModel", "pattern", "()I"⟩
abbrev wd_mo_pattern : Cond := .code y_mo_pattern b_mo_pattern 2 (some .int)
theorem k_mo_pattern : wd_mo_pattern ∈ Gall := tw_540
abbrev b_mo_care : ByteArray := prog_6_method_7_code
abbrev y_mo_care : MethodName := ⟨"PackSeedsModel", "care", "(IIII)Z"⟩
abbrev wd_mo_care : Cond := .code y_mo_care b_mo_care 7 (some .boolean)
theorem k_mo_care : wd_mo_care ∈ Gall := tw_544
abbrev b_mo_found : ByteArray := prog_6_method_8_code
abbrev y_mo_found : MethodName := ⟨"PackSeedsModel", "found", "(II)Z"⟩
abbrev wd_mo_found : Cond := .code y_mo_found b_mo_found 4 (some .boolean)
theorem k_mo_found : wd_mo_found ∈ Gall := tw_560
abbrev b_mo_mask : ByteArray := prog_6_method_9_code
abbrev y_mo_mask : MethodName := ⟨"PackSeedsModel", "mask", "(III)Z"⟩
abbrev wd_mo_mask : Cond := .code y_mo_mask b_mo_mask 6 (some .boolean)
theorem k_mo_mask : wd_mo_mask ∈ Gall := tw_564
abbrev b_mo_goTogether : ByteArray := prog_6_method_10_code
abbrev y_mo_goTogether : MethodName := ⟨"PackSeedsModel", "goTogether", "(II)Z"⟩
abbrev wd_mo_goTogether : Cond := .code y_mo_goTogether b_mo_goTogether 7 (some .boolean)
theorem k_mo_goTogether : wd_mo_goTogether ∈ Gall := tw_572
abbrev b_mo_left : ByteArray := prog_6_method_11_code
abbrev y_mo_left : MethodName := ⟨"PackSeedsModel", "left", "()I"⟩
abbrev wd_mo_left : Cond := .code y_mo_left b_mo_left 3 (some .int)
theorem k_mo_left : wd_mo_left ∈ Gall := tw_576
abbrev b_mo_join : ByteArray := prog_6_method_12_code
abbrev y_mo_join : MethodName := ⟨"PackSeedsModel", "join", "()I"⟩
abbrev wd_mo_join : Cond := .code y_mo_join b_mo_join 4 (some .int)
theorem k_mo_join : wd_mo_join ∈ Gall := tw_568
abbrev b_mo_findersOf : ByteArray := prog_6_method_13_code
abbrev y_mo_findersOf : MethodName := ⟨"PackSeedsModel", "findersOf", "(I)I"⟩
abbrev wd_mo_findersOf : Cond := .code y_mo_findersOf b_mo_findersOf 4 (some .int)
theorem k_mo_findersOf : wd_mo_findersOf ∈ Gall := tw_584
abbrev b_mo_drop : ByteArray := prog_6_method_14_code
abbrev y_mo_drop : MethodName := ⟨"PackSeedsModel", "drop", "()I"⟩
abbrev wd_mo_drop : Cond := .code y_mo_drop b_mo_drop 4 (some .int)
theorem k_mo_drop : wd_mo_drop ∈ Gall := tw_580
abbrev b_mo_finders : ByteArray := prog_6_method_15_code
abbrev y_mo_finders : MethodName := ⟨"PackSeedsModel", "finders", "(I)I"⟩
abbrev wd_mo_finders : Cond := .code y_mo_finders b_mo_finders 2 (some .int)
theorem k_mo_finders : wd_mo_finders ∈ Gall := tw_588
abbrev b_mo_noSeeds : ByteArray := prog_6_method_16_code
abbrev y_mo_noSeeds : MethodName := ⟨"PackSeedsModel", "noSeeds", "()V"⟩
abbrev wd_mo_noSeeds : Cond := .code y_mo_noSeeds b_mo_noSeeds 2 none
theorem k_mo_noSeeds : wd_mo_noSeeds ∈ Gall := tw_596
abbrev b_mo_degree : ByteArray := prog_6_method_17_code
abbrev y_mo_degree : MethodName := ⟨"PackSeedsModel", "degree", "(I)V"⟩
abbrev wd_mo_degree : Cond := .code y_mo_degree b_mo_degree 3 none
theorem k_mo_degree : wd_mo_degree ∈ Gall := tw_592
abbrev b_mo_machine : ByteArray := prog_6_method_18_code
abbrev y_mo_machine : MethodName := ⟨"PackSeedsModel", "machine", "(IZ)Z"⟩
abbrev wd_mo_machine : Cond := .code y_mo_machine b_mo_machine 3 (some .boolean)
theorem k_mo_machine : wd_mo_machine ∈ Gall := tw_600
abbrev b_mo_step : ByteArray := prog_6_method_19_code
abbrev y_mo_step : MethodName := ⟨"PackSeedsModel", "step", "(I)I"⟩
abbrev wd_mo_step : Cond := .code y_mo_step b_mo_step 4 (some .int)
theorem k_mo_step : wd_mo_step ∈ Gall := tw_612
abbrev b_mo_brought : ByteArray := prog_6_method_20_code
abbrev y_mo_brought : MethodName := ⟨"PackSeedsModel", "brought", "(III)I"⟩
abbrev wd_mo_brought : Cond := .code y_mo_brought b_mo_brought 6 (some .int)
theorem k_mo_brought : wd_mo_brought ∈ Gall := tw_628
abbrev b_mo_makes : ByteArray := prog_6_method_21_code
abbrev y_mo_makes : MethodName := ⟨"PackSeedsModel", "makes", "(II)Z"⟩
abbrev wd_mo_makes : Cond := .code y_mo_makes b_mo_makes 7 (some .boolean)
theorem k_mo_makes : wd_mo_makes ∈ Gall := tw_608
abbrev b_mo_seed : ByteArray := prog_6_method_22_code
abbrev y_mo_seed : MethodName := ⟨"PackSeedsModel", "seed", "(I)I"⟩
abbrev wd_mo_seed : Cond := .code y_mo_seed b_mo_seed 3 (some .int)
theorem k_mo_seed : wd_mo_seed ∈ Gall := tw_604
abbrev b_mo_seedOf : ByteArray := prog_6_method_23_code
abbrev y_mo_seedOf : MethodName := ⟨"PackSeedsModel", "seedOf", "(I)I"⟩
abbrev wd_mo_seedOf : Cond := .code y_mo_seedOf b_mo_seedOf 2 (some .int)
theorem k_mo_seedOf : wd_mo_seedOf ∈ Gall := tw_616
abbrev b_mo_bitOf : ByteArray := prog_6_method_24_code
abbrev y_mo_bitOf : MethodName := ⟨"PackSeedsModel", "bitOf", "(III)I"⟩
abbrev wd_mo_bitOf : Cond := .code y_mo_bitOf b_mo_bitOf 6 (some .int)
theorem k_mo_bitOf : wd_mo_bitOf ∈ Gall := tw_624
abbrev b_mo_bit : ByteArray := prog_6_method_25_code
abbrev y_mo_bit : MethodName := ⟨"PackSeedsModel", "bit", "(III)I"⟩
abbrev wd_mo_bit : Cond := .code y_mo_bit b_mo_bit 4 (some .int)
theorem k_mo_bit : wd_mo_bit ∈ Gall := tw_620
abbrev b_mo_fill : ByteArray := prog_6_method_26_code
abbrev y_mo_fill : MethodName := ⟨"PackSeedsModel", "fill", "(I)Z"⟩
abbrev wd_mo_fill : Cond := .code y_mo_fill b_mo_fill 3 (some .boolean)
theorem k_mo_fill : wd_mo_fill ∈ Gall := tw_632
abbrev b_mo_shifts : ByteArray := prog_6_method_27_code
abbrev y_mo_shifts : MethodName := ⟨"PackSeedsModel", "shifts", "(I)J"⟩
abbrev wd_mo_shifts : Cond := .code y_mo_shifts b_mo_shifts 6 (some .long)
theorem k_mo_shifts : wd_mo_shifts ∈ Gall := tw_636
abbrev b_mo_signature : ByteArray := prog_6_method_28_code
abbrev y_mo_signature : MethodName := ⟨"PackSeedsModel", "signature", "(II)J"⟩
abbrev wd_mo_signature : Cond := .code y_mo_signature b_mo_signature 8 (some .long)
theorem k_mo_signature : wd_mo_signature ∈ Gall := tw_640
abbrev b_mo_primitive : ByteArray := prog_6_method_29_code
abbrev y_mo_primitive : MethodName := ⟨"PackSeedsModel", "primitive", "()Z"⟩
abbrev wd_mo_primitive : Cond := .code y_mo_primitive b_mo_primitive 3 (some .boolean)
theorem k_mo_primitive : wd_mo_primitive ∈ Gall := tw_644
abbrev b_mo_rank : ByteArray := prog_6_method_30_code
abbrev y_mo_rank : MethodName := ⟨"PackSeedsModel", "rank", "(I)I"⟩
abbrev wd_mo_rank : Cond := .code y_mo_rank b_mo_rank 7 (some .int)
theorem k_mo_rank : wd_mo_rank ∈ Gall := tw_652
abbrev b_mo_alias : ByteArray := prog_6_method_31_code
abbrev y_mo_alias : MethodName := ⟨"PackSeedsModel", "alias", "(II)J"⟩
abbrev wd_mo_alias : Cond := .code y_mo_alias b_mo_alias 13 (some .long)
theorem k_mo_alias : wd_mo_alias ∈ Gall := tw_648
abbrev b_mo_count : ByteArray := prog_6_method_32_code
abbrev y_mo_count : MethodName := ⟨"PackSeedsModel", "count", "(I)I"⟩
abbrev wd_mo_count : Cond := .code y_mo_count b_mo_count 5 (some .int)
theorem k_mo_count : wd_mo_count ∈ Gall := tw_656
abbrev b_ma_init : ByteArray := prog_2_method_1_code
abbrev y_ma_init : MethodName := ⟨"PackSeeds$Machine", "<init>", "(LPackSeeds$Shape;)V"⟩
abbrev wd_ma_init : Cond := .code y_ma_init b_ma_init 2 none
theorem k_ma_init : wd_ma_init ∈ Gall := tw_49
abbrev b_ma_restart : ByteArray := prog_2_method_2_code
abbrev y_ma_restart : MethodName := ⟨"PackSeeds$Machine", "restart", "(I)V"⟩
abbrev wd_ma_restart : Cond := .code y_ma_restart b_ma_restart 2 none
theorem k_ma_restart : wd_ma_restart ∈ Gall := tw_315
abbrev b_ma_isTapped : ByteArray := prog_2_method_3_code
abbrev y_ma_isTapped : MethodName := ⟨"PackSeeds$Machine", "isTapped", "(I)Z"⟩
abbrev wd_ma_isTapped : Cond := .code y_ma_isTapped b_ma_isTapped 2 (some .boolean)
theorem k_ma_isTapped : wd_ma_isTapped ∈ Gall := tw_332
abbrev b_ma_turnTap : ByteArray := prog_2_method_4_code
abbrev y_ma_turnTap : MethodName := ⟨"PackSeeds$Machine", "turnTap", "(I)V"⟩
abbrev wd_ma_turnTap : Cond := .code y_ma_turnTap b_ma_turnTap 2 none
theorem k_ma_turnTap : wd_ma_turnTap ∈ Gall := tw_336
abbrev b_ma_step : ByteArray := prog_2_method_5_code
abbrev y_ma_step : MethodName := ⟨"PackSeeds$Machine", "step", "(I)I"⟩
abbrev wd_ma_step : Cond := .code y_ma_step b_ma_step 3 (some .int)
theorem k_ma_step : wd_ma_step ∈ Gall := tw_128
abbrev b_ma_stageAround : ByteArray := prog_2_method_6_code
abbrev y_ma_stageAround : MethodName := ⟨"PackSeeds$Machine", "stageAround", "(I)I"⟩
abbrev wd_ma_stageAround : Cond := .code y_ma_stageAround b_ma_stageAround 2 (some .int)
theorem k_ma_stageAround : wd_ma_stageAround ∈ Gall := tw_355
abbrev b_ma_make : ByteArray := prog_2_method_7_code
abbrev y_ma_make : MethodName := ⟨"PackSeeds$Machine", "make", "(I)I"⟩
abbrev wd_ma_make : Cond := .code y_ma_make b_ma_make 6 (some .int)
theorem k_ma_make : wd_ma_make ∈ Gall := tw_351
abbrev b_ma_takeIn : ByteArray := prog_2_method_8_code
abbrev y_ma_takeIn : MethodName := ⟨"PackSeeds$Machine", "takeIn", "(II)I"⟩
abbrev wd_ma_takeIn : Cond := .code y_ma_takeIn b_ma_takeIn 6 (some .int)
theorem k_ma_takeIn : wd_ma_takeIn ∈ Gall := tw_436
abbrev b_ma_hasLongestCycle : ByteArray := prog_2_method_9_code
abbrev y_ma_hasLongestCycle : MethodName := ⟨"PackSeeds$Machine", "hasLongestCycle", "()Z"⟩
abbrev wd_ma_hasLongestCycle : Cond := .code y_ma_hasLongestCycle b_ma_hasLongestCycle 4 (some .boolean)
theorem k_ma_hasLongestCycle : wd_ma_hasLongestCycle ∈ Gall := tw_124
abbrev b_ma_leastSeed : ByteArray := prog_2_method_10_code
abbrev y_ma_leastSeed : MethodName := ⟨"PackSeeds$Machine", "leastSeed", "(II)I"⟩
abbrev wd_ma_leastSeed : Cond := .code y_ma_leastSeed b_ma_leastSeed 5 (some .int)
theorem k_ma_leastSeed : wd_ma_leastSeed ∈ Gall := tw_347
abbrev b_ma_row : ByteArray := prog_2_method_11_code
abbrev y_ma_row : MethodName := ⟨"PackSeeds$Machine", "row", "(II)J"⟩
abbrev wd_ma_row : Cond := .code y_ma_row b_ma_row 2 (some .long)
theorem k_ma_row : wd_ma_row ∈ Gall := tw_359
abbrev b_ma_cellsOf : ByteArray := prog_2_method_12_code
abbrev y_ma_cellsOf : MethodName := ⟨"PackSeeds$Machine", "cellsOf", "(J)J"⟩
abbrev wd_ma_cellsOf : Cond := .code y_ma_cellsOf b_ma_cellsOf 2 (some .long)
theorem k_ma_cellsOf : wd_ma_cellsOf ∈ Gall := tw_370
abbrev b_ma_reduced : ByteArray := prog_2_method_13_code
abbrev y_ma_reduced : MethodName := ⟨"PackSeeds$Machine", "reduced", "(J)J"⟩
abbrev wd_ma_reduced : Cond := .code y_ma_reduced b_ma_reduced 6 (some .long)
theorem k_ma_reduced : wd_ma_reduced ∈ Gall := tw_363
abbrev b_ma_keep : ByteArray := prog_2_method_14_code
abbrev y_ma_keep : MethodName := ⟨"PackSeeds$Machine", "keep", "(J)V"⟩
abbrev wd_ma_keep : Cond := .code y_ma_keep b_ma_keep 4 none
theorem k_ma_keep : wd_ma_keep ∈ Gall := tw_367
abbrev b_pt_init : ByteArray := prog_3_method_1_code
abbrev y_pt_init : MethodName := ⟨"PackSeeds$Pattern", "<init>", "()V"⟩
abbrev wd_pt_init : Cond := .code y_pt_init b_pt_init 1 none
theorem k_pt_init : wd_pt_init ∈ Gall := tw_216
abbrev b_pt_careAt : ByteArray := prog_3_method_2_code
abbrev y_pt_careAt : MethodName := ⟨"PackSeeds$Pattern", "careAt", "(I)I"⟩
abbrev wd_pt_careAt : Cond := .code y_pt_careAt b_pt_careAt 2 (some .int)
theorem k_pt_careAt : wd_pt_careAt ∈ Gall := tw_303
abbrev b_pt_setCare : ByteArray := prog_3_method_3_code
abbrev y_pt_setCare : MethodName := ⟨"PackSeeds$Pattern", "setCare", "(II)Z"⟩
abbrev wd_pt_setCare : Cond := .code y_pt_setCare b_pt_setCare 3 (some .boolean)
theorem k_pt_setCare : wd_pt_setCare ∈ Gall := tw_299
abbrev b_pt_goesWith : ByteArray := prog_3_method_4_code
abbrev y_pt_goesWith : MethodName := ⟨"PackSeeds$Pattern", "goesWith", "(LPackSeeds$Pattern;)Z"⟩
abbrev wd_pt_goesWith : Cond := .code y_pt_goesWith b_pt_goesWith 2 (some .boolean)
theorem k_pt_goesWith : wd_pt_goesWith ∈ Gall := tw_100
abbrev b_pt_take : ByteArray := prog_3_method_5_code
abbrev y_pt_take : MethodName := ⟨"PackSeeds$Pattern", "take", "(LPackSeeds$Pattern;)V"⟩
abbrev wd_pt_take : Cond := .code y_pt_take b_pt_take 2 none
theorem k_pt_take : wd_pt_take ∈ Gall := tw_104
abbrev b_sh_init : ByteArray := prog_4_method_1_code
abbrev y_sh_init : MethodName := ⟨"PackSeeds$Shape", "<init>", "(II)V"⟩
abbrev wd_sh_init : Cond := .code y_sh_init b_sh_init 3 none
theorem k_sh_init : wd_sh_init ∈ Gall := tw_26
abbrev b_la_cell : ByteArray := method_2_code
abbrev y_la_cell : MethodName := ⟨"PackSeedsLaw", "cell", "([II)I"⟩
abbrev wd_la_cell : Cond := .code y_la_cell b_la_cell 2 (some .int)
theorem k_la_cell : wd_la_cell ∈ Gall := tw_137
abbrev b_la_pattern : ByteArray := method_3_code
abbrev y_la_pattern : MethodName := ⟨"PackSeedsLaw", "pattern", "(LPackSeeds;[J)I"⟩
abbrev hh_la_pattern : List (Nat × Nat × Nat × Nat) := [((0 : Nat), (8 : Nat), (11 : Nat), (13 : Nat))]
abbrev wd_la_pattern : Cond := .codeWith y_la_pattern b_la_pattern 3 (some .int) hh_la_pattern
theorem k_la_pattern : wd_la_pattern ∈ Gall := tw_140
abbrev b_la_care : ByteArray := method_4_code
abbrev y_la_care : MethodName := ⟨"PackSeedsLaw", "care", "(LPackSeeds;IIII[J)I"⟩
abbrev hh_la_care : List (Nat × Nat × Nat × Nat) := [((0 : Nat), (21 : Nat), (24 : Nat), (19 : Nat)), ((0 : Nat), (21 : Nat), (28 : Nat), (21 : Nat))]
abbrev wd_la_care : Cond := .codeWith y_la_care b_la_care 7 (some .int) hh_la_care
theorem k_la_care : wd_la_care ∈ Gall := tw_245
abbrev b_la_degree : ByteArray := method_5_code
abbrev y_la_degree : MethodName := ⟨"PackSeedsLaw", "degree", "(LPackSeeds;I)I"⟩
abbrev hh_la_degree : List (Nat × Nat × Nat × Nat) := [((0 : Nat), (5 : Nat), (8 : Nat), (21 : Nat))]
abbrev wd_la_degree : Cond := .codeWith y_la_degree b_la_degree 3 (some .int) hh_la_degree
theorem k_la_degree : wd_la_degree ∈ Gall := tw_306
abbrev b_la_machine : ByteArray := method_6_code
abbrev y_la_machine : MethodName := ⟨"PackSeedsLaw", "machine", "(LPackSeeds;IZ[J)I"⟩
abbrev hh_la_machine : List (Nat × Nat × Nat × Nat) := [((0 : Nat), (17 : Nat), (20 : Nat), (19 : Nat)), ((0 : Nat), (17 : Nat), (24 : Nat), (21 : Nat))]
abbrev wd_la_machine : Cond := .codeWith y_la_machine b_la_machine 5 (some .int) hh_la_machine
theorem k_la_machine : wd_la_machine ∈ Gall := tw_322
abbrev b_la_seed : ByteArray := method_7_code
abbrev y_la_seed : MethodName := ⟨"PackSeedsLaw", "seed", "(LPackSeeds;I[J)I"⟩
abbrev hh_la_seed : List (Nat × Nat × Nat × Nat) := [((0 : Nat), (9 : Nat), (12 : Nat), (19 : Nat))]
abbrev wd_la_seed : Cond := .codeWith y_la_seed b_la_seed 4 (some .int) hh_la_seed
theorem k_la_seed : wd_la_seed ∈ Gall := tw_339
abbrev b_la_seedOf : ByteArray := method_8_code
abbrev y_la_seedOf : MethodName := ⟨"PackSeedsLaw", "seedOf", "(LPackSeeds;I[J)I"⟩
abbrev hh_la_seedOf : List (Nat × Nat × Nat × Nat) := [((0 : Nat), (9 : Nat), (12 : Nat), (19 : Nat))]
abbrev wd_la_seedOf : Cond := .codeWith y_la_seedOf b_la_seedOf 4 (some .int) hh_la_seedOf
theorem k_la_seedOf : wd_la_seedOf ∈ Gall := tw_373
abbrev b_la_bit : ByteArray := method_9_code
abbrev y_la_bit : MethodName := ⟨"PackSeedsLaw", "bit", "(LPackSeeds;III[J)I"⟩
abbrev hh_la_bit : List (Nat × Nat × Nat × Nat) := [((0 : Nat), (12 : Nat), (15 : Nat), (19 : Nat))]
abbrev wd_la_bit : Cond := .codeWith y_la_bit b_la_bit 6 (some .int) hh_la_bit
theorem k_la_bit : wd_la_bit ∈ Gall := tw_380
abbrev b_la_found : ByteArray := method_10_code
abbrev y_la_found : MethodName := ⟨"PackSeedsLaw", "found", "(LPackSeeds;II[J)I"⟩
abbrev hh_la_found : List (Nat × Nat × Nat × Nat) := [((0 : Nat), (17 : Nat), (20 : Nat), (19 : Nat))]
abbrev wd_la_found : Cond := .codeWith y_la_found b_la_found 5 (some .int) hh_la_found
theorem k_la_found : wd_la_found ∈ Gall := tw_401
abbrev b_la_finders : ByteArray := method_11_code
abbrev y_la_finders : MethodName := ⟨"PackSeedsLaw", "finders", "(LPackSeeds;I[J)I"⟩
abbrev hh_la_finders : List (Nat × Nat × Nat × Nat) := [((0 : Nat), (9 : Nat), (12 : Nat), (19 : Nat))]
abbrev wd_la_finders : Cond := .codeWith y_la_finders b_la_finders 4 (some .int) hh_la_finders
theorem k_la_finders : wd_la_finders ∈ Gall := tw_412
abbrev b_la_mask : ByteArray := method_12_code
abbrev y_la_mask : MethodName := ⟨"PackSeedsLaw", "mask", "(LPackSeeds;III[J)I"⟩
abbrev hh_la_mask : List (Nat × Nat × Nat × Nat) := [((0 : Nat), (19 : Nat), (22 : Nat), (19 : Nat))]
abbrev wd_la_mask : Cond := .codeWith y_la_mask b_la_mask 6 (some .int) hh_la_mask
theorem k_la_mask : wd_la_mask ∈ Gall := tw_419
abbrev b_la_signature : ByteArray := method_13_code
abbrev y_la_signature : MethodName := ⟨"PackSeedsLaw", "signature", "(LPackSeeds;II[J)I"⟩
abbrev hh_la_signature : List (Nat × Nat × Nat × Nat) := [((0 : Nat), (9 : Nat), (12 : Nat), (21 : Nat))]
abbrev wd_la_signature : Cond := .codeWith y_la_signature b_la_signature 5 (some .int) hh_la_signature
theorem k_la_signature : wd_la_signature ∈ Gall := tw_426
abbrev b_la_alias : ByteArray := method_14_code
abbrev y_la_alias : MethodName := ⟨"PackSeedsLaw", "alias", "(LPackSeeds;II[J)I"⟩
abbrev hh_la_alias : List (Nat × Nat × Nat × Nat) := [((0 : Nat), (9 : Nat), (12 : Nat), (21 : Nat))]
abbrev wd_la_alias : Cond := .codeWith y_la_alias b_la_alias 5 (some .int) hh_la_alias
theorem k_la_alias : wd_la_alias ∈ Gall := tw_439
abbrev b_la_fill : ByteArray := method_15_code
abbrev y_la_fill : MethodName := ⟨"PackSeedsLaw", "fill", "(LPackSeeds;I[J)I"⟩
abbrev hh_la_fill : List (Nat × Nat × Nat × Nat) := [((0 : Nat), (16 : Nat), (19 : Nat), (21 : Nat))]
abbrev wd_la_fill : Cond := .codeWith y_la_fill b_la_fill 4 (some .int) hh_la_fill
theorem k_la_fill : wd_la_fill ∈ Gall := tw_455
abbrev b_la_shifts : ByteArray := method_16_code
abbrev y_la_shifts : MethodName := ⟨"PackSeedsLaw", "shifts", "(LPackSeeds;I[J)I"⟩
abbrev hh_la_shifts : List (Nat × Nat × Nat × Nat) := [((0 : Nat), (8 : Nat), (11 : Nat), (19 : Nat))]
abbrev wd_la_shifts : Cond := .codeWith y_la_shifts b_la_shifts 4 (some .int) hh_la_shifts
theorem k_la_shifts : wd_la_shifts ∈ Gall := tw_463
abbrev b_la_count : ByteArray := method_17_code
abbrev y_la_count : MethodName := ⟨"PackSeedsLaw", "count", "(LPackSeeds;I[J)I"⟩
abbrev hh_la_count : List (Nat × Nat × Nat × Nat) := [((0 : Nat), (9 : Nat), (12 : Nat), (19 : Nat))]
abbrev wd_la_count : Cond := .codeWith y_la_count b_la_count 4 (some .int) hh_la_count
theorem k_la_count : wd_la_count ∈ Gall := tw_470
abbrev b_in_bitCount : ByteArray := prog_10_method_49_code
abbrev y_in_bitCount : MethodName := ⟨"java/lang/Integer", "bitCount", "(I)I"⟩
abbrev wd_in_bitCount : Cond := .code y_in_bitCount b_in_bitCount 1 (some .int)
theorem k_in_bitCount : wd_in_bitCount ∈ Gall := tw_131
abbrev b_mt_max : ByteArray := prog_11_method_65_code
abbrev y_mt_max : MethodName := ⟨"java/lang/Math", "max", "(II)I"⟩
abbrev wd_mt_max : Cond := .code y_mt_max b_mt_max 2 (some .int)
theorem k_mt_max : wd_mt_max ∈ Gall := tw_30
abbrev b_mt_max2 : ByteArray := prog_11_method_66_code
abbrev y_mt_max2 : MethodName := ⟨"java/lang/Math", "max", "(JJ)J"⟩
abbrev wd_mt_max2 : Cond := .code y_mt_max2 b_mt_max2 4 (some .long)
theorem k_mt_max2 : wd_mt_max2 ∈ Gall := tw_452
abbrev b_mt_min : ByteArray := prog_11_method_69_code
abbrev y_mt_min : MethodName := ⟨"java/lang/Math", "min", "(II)I"⟩
abbrev wd_mt_min : Cond := .code y_mt_min b_mt_min 2 (some .int)
theorem k_mt_min : wd_mt_min ∈ Gall := tw_33
end
section
theorem d_ps_init_0 : decode b_ps_init 0 = .ok (.aload_n 0, 1) := by decide +kernel
theorem d_ps_init_1 : decode b_ps_init 1 = .ok (.invokespecial 1, 3) := by decide +kernel
theorem d_ps_init_4 : decode b_ps_init 4 = .ok (.aload_n 0, 1) := by decide +kernel
theorem d_ps_init_5 : decode b_ps_init 5 = .ok (.new 7, 3) := by decide +kernel
theorem d_ps_init_8 : decode b_ps_init 8 = .ok (.dup, 1) := by decide +kernel
theorem d_ps_init_9 : decode b_ps_init 9 = .ok (.iload_n 1, 1) := by decide +kernel
theorem d_ps_init_10 : decode b_ps_init 10 = .ok (.iload_n 2, 1) := by decide +kernel
theorem d_ps_init_11 : decode b_ps_init 11 = .ok (.invokespecial 9, 3) := by decide +kernel
theorem d_ps_init_14 : decode b_ps_init 14 = .ok (.putfield 12, 3) := by decide +kernel
theorem d_ps_init_17 : decode b_ps_init 17 = .ok (.aload_n 0, 1) := by decide +kernel
theorem d_ps_init_18 : decode b_ps_init 18 = .ok (.new 18, 3) := by decide +kernel
theorem d_ps_init_21 : decode b_ps_init 21 = .ok (.dup, 1) := by decide +kernel
theorem d_ps_init_22 : decode b_ps_init 22 = .ok (.aload_n 0, 1) := by decide +kernel
theorem d_ps_init_23 : decode b_ps_init 23 = .ok (.getfield 12, 3) := by decide +kernel
theorem d_ps_init_26 : decode b_ps_init 26 = .ok (.invokespecial 20, 3) := by decide +kernel
theorem d_ps_init_29 : decode b_ps_init 29 = .ok (.putfield 23, 3) := by decide +kernel
theorem d_ps_init_32 : decode b_ps_init 32 = .ok (.aload_n 0, 1) := by decide +kernel
theorem d_ps_init_33 : decode b_ps_init 33 = .ok (.bipush 24, 2) := by decide +kernel
theorem d_ps_init_35 : decode b_ps_init 35 = .ok (.anewarray 27, 3) := by decide +kernel
theorem d_ps_init_38 : decode b_ps_init 38 = .ok (.putfield 29, 3) := by decide +kernel
theorem d_ps_init_41 : decode b_ps_init 41 = .ok (.aload_n 0, 1) := by decide +kernel
theorem d_ps_init_42 : decode b_ps_init 42 = .ok (.iconst 0, 1) := by decide +kernel
theorem d_ps_init_43 : decode b_ps_init 43 = .ok (.putfield 33, 3) := by decide +kernel
theorem d_ps_init_46 : decode b_ps_init 46 = .ok (.aload_n 0, 1) := by decide +kernel
theorem d_ps_init_47 : decode b_ps_init 47 = .ok (.iconst 0, 1) := by decide +kernel
theorem d_ps_init_48 : decode b_ps_init 48 = .ok (.putfield 37, 3) := by decide +kernel
theorem d_ps_init_51 : decode b_ps_init 51 = .ok (.return_, 1) := by decide +kernel
theorem d_ps_pattern_0 : decode b_ps_pattern 0 = .ok (.aload_n 0, 1) := by decide +kernel
theorem d_ps_pattern_1 : decode b_ps_pattern 1 = .ok (.getfield 33, 3) := by decide +kernel
theorem d_ps_pattern_4 : decode b_ps_pattern 4 = .ok (.ifCond .lt 15, 3) := by decide +kernel
theorem d_ps_pattern_7 : decode b_ps_pattern 7 = .ok (.aload_n 0, 1) := by decide +kernel
theorem d_ps_pattern_8 : decode b_ps_pattern 8 = .ok (.getfield 33, 3) := by decide +kernel
theorem d_ps_pattern_11 : decode b_ps_pattern 11 = .ok (.aload_n 0, 1) := by decide +kernel
theorem d_ps_pattern_12 : decode b_ps_pattern 12 = .ok (.getfield 29, 3) := by decide +kernel
theorem d_ps_pattern_15 : decode b_ps_pattern 15 = .ok (.arraylength, 1) := by decide +kernel
theorem d_ps_pattern_16 : decode b_ps_pattern 16 = .ok (.if_icmp .lt 13, 3) := by decide +kernel
theorem d_ps_pattern_19 : decode b_ps_pattern 19 = .ok (.new 40, 3) := by decide +kernel
theorem d_ps_pattern_22 : decode b_ps_pattern 22 = .ok (.dup, 1) := by decide +kernel
theorem d_ps_pattern_23 : decode b_ps_pattern 23 = .ok (.ldc 42, 2) := by decide +kernel
theorem d_ps_pattern_25 : decode b_ps_pattern 25 = .ok (.invokespecial 44, 3) := by decide +kernel
theorem d_ps_pattern_28 : decode b_ps_pattern 28 = .ok (.athrow, 1) := by decide +kernel
theorem d_ps_pattern_29 : decode b_ps_pattern 29 = .ok (.aload_n 0, 1) := by decide +kernel
theorem d_ps_pattern_30 : decode b_ps_pattern 30 = .ok (.getfield 33, 3) := by decide +kernel
theorem d_ps_pattern_33 : decode b_ps_pattern 33 = .ok (.istore_n 1, 1) := by decide +kernel
theorem d_ps_pattern_34 : decode b_ps_pattern 34 = .ok (.aload_n 0, 1) := by decide +kernel
theorem d_ps_pattern_35 : decode b_ps_pattern 35 = .ok (.getfield 29, 3) := by decide +kernel
theorem d_ps_pattern_38 : decode b_ps_pattern 38 = .ok (.iload_n 1, 1) := by decide +kernel
theorem d_ps_pattern_39 : decode b_ps_pattern 39 = .ok (.new 27, 3) := by decide +kernel
theorem d_ps_pattern_42 : decode b_ps_pattern 42 = .ok (.dup, 1) := by decide +kernel
theorem d_ps_pattern_43 : decode b_ps_pattern 43 = .ok (.invokespecial 47, 3) := by decide +kernel
theorem d_ps_pattern_46 : decode b_ps_pattern 46 = .ok (.aastore, 1) := by decide +kernel
theorem d_ps_pattern_47 : decode b_ps_pattern 47 = .ok (.aload_n 0, 1) := by decide +kernel
theorem d_ps_pattern_48 : decode b_ps_pattern 48 = .ok (.iload_n 1, 1) := by decide +kernel
theorem d_ps_pattern_49 : decode b_ps_pattern 49 = .ok (.iconst 1, 1) := by decide +kernel
theorem d_ps_pattern_50 : decode b_ps_pattern 50 = .ok (.iadd, 1) := by decide +kernel
theorem d_ps_pattern_51 : decode b_ps_pattern 51 = .ok (.putfield 33, 3) := by decide +kernel
theorem d_ps_pattern_54 : decode b_ps_pattern 54 = .ok (.iload_n 1, 1) := by decide +kernel
theorem d_ps_pattern_55 : decode b_ps_pattern 55 = .ok (.ireturn, 1) := by decide +kernel
theorem d_ps_care_0 : decode b_ps_care 0 = .ok (.aload_n 0, 1) := by decide +kernel
theorem d_ps_care_1 : decode b_ps_care 1 = .ok (.iload_n 1, 1) := by decide +kernel
theorem d_ps_care_2 : decode b_ps_care 2 = .ok (.invokevirtual 48, 3) := by decide +kernel
theorem d_ps_care_5 : decode b_ps_care 5 = .ok (.astore 5, 2) := by decide +kernel
theorem d_ps_care_7 : decode b_ps_care 7 = .ok (.aload_n 0, 1) := by decide +kernel
theorem d_ps_care_8 : decode b_ps_care 8 = .ok (.iload_n 2, 1) := by decide +kernel
theorem d_ps_care_9 : decode b_ps_care 9 = .ok (.iload_n 3, 1) := by decide +kernel
theorem d_ps_care_10 : decode b_ps_care 10 = .ok (.invokevirtual 52, 3) := by decide +kernel
theorem d_ps_care_13 : decode b_ps_care 13 = .ok (.istore 6, 2) := by decide +kernel
theorem d_ps_care_15 : decode b_ps_care 15 = .ok (.iload 4, 2) := by decide +kernel
theorem d_ps_care_17 : decode b_ps_care 17 = .ok (.iconst (-1), 1) := by decide +kernel
theorem d_ps_care_18 : decode b_ps_care 18 = .ok (.if_icmp .eq 24, 3) := by decide +kernel
theorem d_ps_care_21 : decode b_ps_care 21 = .ok (.iload 4, 2) := by decide +kernel
theorem d_ps_care_23 : decode b_ps_care 23 = .ok (.ifCond .eq 19, 3) := by decide +kernel
theorem d_ps_care_26 : decode b_ps_care 26 = .ok (.iload 4, 2) := by decide +kernel
theorem d_ps_care_28 : decode b_ps_care 28 = .ok (.iconst 1, 1) := by decide +kernel
theorem d_ps_care_29 : decode b_ps_care 29 = .ok (.if_icmp .eq 13, 3) := by decide +kernel
theorem d_ps_care_32 : decode b_ps_care 32 = .ok (.new 56, 3) := by decide +kernel
theorem d_ps_care_35 : decode b_ps_care 35 = .ok (.dup, 1) := by decide +kernel
theorem d_ps_care_36 : decode b_ps_care 36 = .ok (.ldc 58, 2) := by decide +kernel
theorem d_ps_care_38 : decode b_ps_care 38 = .ok (.invokespecial 60, 3) := by decide +kernel
theorem d_ps_care_41 : decode b_ps_care 41 = .ok (.athrow, 1) := by decide +kernel
theorem d_ps_care_42 : decode b_ps_care 42 = .ok (.aload 5, 2) := by decide +kernel
theorem d_ps_care_44 : decode b_ps_care 44 = .ok (.iload 6, 2) := by decide +kernel
theorem d_ps_care_46 : decode b_ps_care 46 = .ok (.iload 4, 2) := by decide +kernel
theorem d_ps_care_48 : decode b_ps_care 48 = .ok (.invokevirtual 61, 3) := by decide +kernel
theorem d_ps_care_51 : decode b_ps_care 51 = .ok (.ireturn, 1) := by decide +kernel
theorem d_ps_join_0 : decode b_ps_join 0 = .ok (.iconst 0, 1) := by decide +kernel
theorem d_ps_join_1 : decode b_ps_join 1 = .ok (.istore_n 1, 1) := by decide +kernel
theorem d_ps_join_2 : decode b_ps_join 2 = .ok (.iload_n 1, 1) := by decide +kernel
theorem d_ps_join_3 : decode b_ps_join 3 = .ok (.aload_n 0, 1) := by decide +kernel
theorem d_ps_join_4 : decode b_ps_join 4 = .ok (.getfield 29, 3) := by decide +kernel
theorem d_ps_join_7 : decode b_ps_join 7 = .ok (.arraylength, 1) := by decide +kernel
theorem d_ps_join_8 : decode b_ps_join 8 = .ok (.if_icmp .ge 25, 3) := by decide +kernel
theorem d_ps_join_11 : decode b_ps_join 11 = .ok (.aload_n 0, 1) := by decide +kernel
theorem d_ps_join_12 : decode b_ps_join 12 = .ok (.iload_n 1, 1) := by decide +kernel
theorem d_ps_join_13 : decode b_ps_join 13 = .ok (.invokevirtual 65, 3) := by decide +kernel
theorem d_ps_join_16 : decode b_ps_join 16 = .ok (.astore_n 2, 1) := by decide +kernel
theorem d_ps_join_17 : decode b_ps_join 17 = .ok (.aload_n 2, 1) := by decide +kernel
theorem d_ps_join_18 : decode b_ps_join 18 = .ok (.ifnull 9, 3) := by decide +kernel
theorem d_ps_join_21 : decode b_ps_join 21 = .ok (.aload_n 0, 1) := by decide +kernel
theorem d_ps_join_22 : decode b_ps_join 22 = .ok (.aload_n 2, 1) := by decide +kernel
theorem d_ps_join_23 : decode b_ps_join 23 = .ok (.iload_n 1, 1) := by decide +kernel
theorem d_ps_join_24 : decode b_ps_join 24 = .ok (.invokevirtual 68, 3) := by decide +kernel
theorem d_ps_join_27 : decode b_ps_join 27 = .ok (.iinc 1 1, 3) := by decide +kernel
theorem d_ps_join_30 : decode b_ps_join 30 = .ok (.goto (-28), 3) := by decide +kernel
theorem d_ps_join_33 : decode b_ps_join 33 = .ok (.aload_n 0, 1) := by decide +kernel
theorem d_ps_join_34 : decode b_ps_join 34 = .ok (.invokevirtual 72, 3) := by decide +kernel
theorem d_ps_join_37 : decode b_ps_join 37 = .ok (.ireturn, 1) := by decide +kernel
theorem d_ps_degree_0 : decode b_ps_degree 0 = .ok (.iload_n 1, 1) := by decide +kernel
theorem d_ps_degree_1 : decode b_ps_degree 1 = .ok (.iconst 1, 1) := by decide +kernel
theorem d_ps_degree_2 : decode b_ps_degree 2 = .ok (.if_icmp .lt 9, 3) := by decide +kernel
theorem d_ps_degree_5 : decode b_ps_degree 5 = .ok (.iload_n 1, 1) := by decide +kernel
theorem d_ps_degree_6 : decode b_ps_degree 6 = .ok (.bipush 16, 2) := by decide +kernel
theorem d_ps_degree_8 : decode b_ps_degree 8 = .ok (.if_icmp .le 13, 3) := by decide +kernel
theorem d_ps_degree_11 : decode b_ps_degree 11 = .ok (.new 56, 3) := by decide +kernel
theorem d_ps_degree_14 : decode b_ps_degree 14 = .ok (.dup, 1) := by decide +kernel
theorem d_ps_degree_15 : decode b_ps_degree 15 = .ok (.ldc 76, 2) := by decide +kernel
theorem d_ps_degree_17 : decode b_ps_degree 17 = .ok (.invokespecial 60, 3) := by decide +kernel
theorem d_ps_degree_20 : decode b_ps_degree 20 = .ok (.athrow, 1) := by decide +kernel
theorem d_ps_degree_21 : decode b_ps_degree 21 = .ok (.aload_n 0, 1) := by decide +kernel
theorem d_ps_degree_22 : decode b_ps_degree 22 = .ok (.getfield 23, 3) := by decide +kernel
theorem d_ps_degree_25 : decode b_ps_degree 25 = .ok (.iload_n 1, 1) := by decide +kernel
theorem d_ps_degree_26 : decode b_ps_degree 26 = .ok (.invokevirtual 78, 3) := by decide +kernel
theorem d_ps_degree_29 : decode b_ps_degree 29 = .ok (.aload_n 0, 1) := by decide +kernel
theorem d_ps_degree_30 : decode b_ps_degree 30 = .ok (.invokevirtual 82, 3) := by decide +kernel
theorem d_ps_degree_33 : decode b_ps_degree 33 = .ok (.return_, 1) := by decide +kernel
theorem d_ps_machine_0 : decode b_ps_machine 0 = .ok (.iload_n 1, 1) := by decide +kernel
theorem d_ps_machine_1 : decode b_ps_machine 1 = .ok (.ifCond .lt 14, 3) := by decide +kernel
theorem d_ps_machine_4 : decode b_ps_machine 4 = .ok (.iload_n 1, 1) := by decide +kernel
theorem d_ps_machine_5 : decode b_ps_machine 5 = .ok (.aload_n 0, 1) := by decide +kernel
theorem d_ps_machine_6 : decode b_ps_machine 6 = .ok (.getfield 23, 3) := by decide +kernel
theorem d_ps_machine_9 : decode b_ps_machine 9 = .ok (.getfield 85, 3) := by decide +kernel
theorem d_ps_machine_12 : decode b_ps_machine 12 = .ok (.if_icmp .lt 13, 3) := by decide +kernel
theorem d_ps_machine_15 : decode b_ps_machine 15 = .ok (.new 88, 3) := by decide +kernel
theorem d_ps_machine_18 : decode b_ps_machine 18 = .ok (.dup, 1) := by decide +kernel
theorem d_ps_machine_19 : decode b_ps_machine 19 = .ok (.ldc 90, 2) := by decide +kernel
theorem d_ps_machine_21 : decode b_ps_machine 21 = .ok (.invokespecial 92, 3) := by decide +kernel
theorem d_ps_machine_24 : decode b_ps_machine 24 = .ok (.athrow, 1) := by decide +kernel
theorem d_ps_machine_25 : decode b_ps_machine 25 = .ok (.iload_n 1, 1) := by decide +kernel
theorem d_ps_machine_26 : decode b_ps_machine 26 = .ok (.aload_n 0, 1) := by decide +kernel
theorem d_ps_machine_27 : decode b_ps_machine 27 = .ok (.getfield 23, 3) := by decide +kernel
theorem d_ps_machine_30 : decode b_ps_machine 30 = .ok (.getfield 85, 3) := by decide +kernel
theorem d_ps_machine_33 : decode b_ps_machine 33 = .ok (.iconst 1, 1) := by decide +kernel
theorem d_ps_machine_34 : decode b_ps_machine 34 = .ok (.isub, 1) := by decide +kernel
theorem d_ps_machine_35 : decode b_ps_machine 35 = .ok (.if_icmp .ne 17, 3) := by decide +kernel
theorem d_ps_machine_38 : decode b_ps_machine 38 = .ok (.iload_n 2, 1) := by decide +kernel
theorem d_ps_machine_39 : decode b_ps_machine 39 = .ok (.ifCond .ne 13, 3) := by decide +kernel
theorem d_ps_machine_42 : decode b_ps_machine 42 = .ok (.new 56, 3) := by decide +kernel
theorem d_ps_machine_45 : decode b_ps_machine 45 = .ok (.dup, 1) := by decide +kernel
theorem d_ps_machine_46 : decode b_ps_machine 46 = .ok (.ldc 93, 2) := by decide +kernel
theorem d_ps_machine_48 : decode b_ps_machine 48 = .ok (.invokespecial 60, 3) := by decide +kernel
theorem d_ps_machine_51 : decode b_ps_machine 51 = .ok (.athrow, 1) := by decide +kernel
theorem d_ps_machine_52 : decode b_ps_machine 52 = .ok (.aload_n 0, 1) := by decide +kernel
theorem d_ps_machine_53 : decode b_ps_machine 53 = .ok (.getfield 23, 3) := by decide +kernel
theorem d_ps_machine_56 : decode b_ps_machine 56 = .ok (.iload_n 1, 1) := by decide +kernel
theorem d_ps_machine_57 : decode b_ps_machine 57 = .ok (.invokevirtual 95, 3) := by decide +kernel
theorem d_ps_machine_60 : decode b_ps_machine 60 = .ok (.iload_n 2, 1) := by decide +kernel
theorem d_ps_machine_61 : decode b_ps_machine 61 = .ok (.if_icmp .ne 5, 3) := by decide +kernel
theorem d_ps_machine_64 : decode b_ps_machine 64 = .ok (.iconst 0, 1) := by decide +kernel
theorem d_ps_machine_65 : decode b_ps_machine 65 = .ok (.ireturn, 1) := by decide +kernel
theorem d_ps_machine_66 : decode b_ps_machine 66 = .ok (.aload_n 0, 1) := by decide +kernel
theorem d_ps_machine_67 : decode b_ps_machine 67 = .ok (.getfield 23, 3) := by decide +kernel
theorem d_ps_machine_70 : decode b_ps_machine 70 = .ok (.iload_n 1, 1) := by decide +kernel
theorem d_ps_machine_71 : decode b_ps_machine 71 = .ok (.invokevirtual 99, 3) := by decide +kernel
theorem d_ps_machine_74 : decode b_ps_machine 74 = .ok (.aload_n 0, 1) := by decide +kernel
theorem d_ps_machine_75 : decode b_ps_machine 75 = .ok (.invokevirtual 82, 3) := by decide +kernel
theorem d_ps_machine_78 : decode b_ps_machine 78 = .ok (.iconst 1, 1) := by decide +kernel
theorem d_ps_machine_79 : decode b_ps_machine 79 = .ok (.ireturn, 1) := by decide +kernel
theorem d_ps_seed_0 : decode b_ps_seed 0 = .ok (.aload_n 0, 1) := by decide +kernel
theorem d_ps_seed_1 : decode b_ps_seed 1 = .ok (.iload_n 1, 1) := by decide +kernel
theorem d_ps_seed_2 : decode b_ps_seed 2 = .ok (.invokevirtual 48, 3) := by decide +kernel
theorem d_ps_seed_5 : decode b_ps_seed 5 = .ok (.astore_n 2, 1) := by decide +kernel
theorem d_ps_seed_6 : decode b_ps_seed 6 = .ok (.aload_n 2, 1) := by decide +kernel
theorem d_ps_seed_7 : decode b_ps_seed 7 = .ok (.aload_n 0, 1) := by decide +kernel
theorem d_ps_seed_8 : decode b_ps_seed 8 = .ok (.getfield 23, 3) := by decide +kernel
theorem d_ps_seed_11 : decode b_ps_seed 11 = .ok (.aload_n 2, 1) := by decide +kernel
theorem d_ps_seed_12 : decode b_ps_seed 12 = .ok (.getfield 102, 3) := by decide +kernel
theorem d_ps_seed_15 : decode b_ps_seed 15 = .ok (.aload_n 2, 1) := by decide +kernel
theorem d_ps_seed_16 : decode b_ps_seed 16 = .ok (.getfield 105, 3) := by decide +kernel
theorem d_ps_seed_19 : decode b_ps_seed 19 = .ok (.invokevirtual 108, 3) := by decide +kernel
theorem d_ps_seed_22 : decode b_ps_seed 22 = .ok (.putfield 111, 3) := by decide +kernel
theorem d_ps_seed_25 : decode b_ps_seed 25 = .ok (.aload_n 2, 1) := by decide +kernel
theorem d_ps_seed_26 : decode b_ps_seed 26 = .ok (.getfield 111, 3) := by decide +kernel
theorem d_ps_seed_29 : decode b_ps_seed 29 = .ok (.iconst (-1), 1) := by decide +kernel
theorem d_ps_seed_30 : decode b_ps_seed 30 = .ok (.if_icmp .ne 7, 3) := by decide +kernel
theorem d_ps_seed_33 : decode b_ps_seed 33 = .ok (.iconst 1, 1) := by decide +kernel
theorem d_ps_seed_34 : decode b_ps_seed 34 = .ok (.goto 4, 3) := by decide +kernel
theorem d_ps_seed_37 : decode b_ps_seed 37 = .ok (.iconst 0, 1) := by decide +kernel
theorem d_ps_seed_38 : decode b_ps_seed 38 = .ok (.ireturn, 1) := by decide +kernel
theorem d_ps_seedOf_0 : decode b_ps_seedOf 0 = .ok (.aload_n 0, 1) := by decide +kernel
theorem d_ps_seedOf_1 : decode b_ps_seedOf 1 = .ok (.iload_n 1, 1) := by decide +kernel
theorem d_ps_seedOf_2 : decode b_ps_seedOf 2 = .ok (.invokevirtual 48, 3) := by decide +kernel
theorem d_ps_seedOf_5 : decode b_ps_seedOf 5 = .ok (.getfield 111, 3) := by decide +kernel
theorem d_ps_seedOf_8 : decode b_ps_seedOf 8 = .ok (.ireturn, 1) := by decide +kernel
theorem d_ps_bit_0 : decode b_ps_bit 0 = .ok (.aload_n 0, 1) := by decide +kernel
theorem d_ps_bit_1 : decode b_ps_bit 1 = .ok (.iload_n 1, 1) := by decide +kernel
theorem d_ps_bit_2 : decode b_ps_bit 2 = .ok (.invokevirtual 48, 3) := by decide +kernel
theorem d_ps_bit_5 : decode b_ps_bit 5 = .ok (.astore 4, 2) := by decide +kernel
theorem d_ps_bit_7 : decode b_ps_bit 7 = .ok (.aload_n 0, 1) := by decide +kernel
theorem d_ps_bit_8 : decode b_ps_bit 8 = .ok (.iload_n 2, 1) := by decide +kernel
theorem d_ps_bit_9 : decode b_ps_bit 9 = .ok (.iload_n 3, 1) := by decide +kernel
theorem d_ps_bit_10 : decode b_ps_bit 10 = .ok (.invokevirtual 52, 3) := by decide +kernel
theorem d_ps_bit_13 : decode b_ps_bit 13 = .ok (.istore 5, 2) := by decide +kernel
theorem d_ps_bit_15 : decode b_ps_bit 15 = .ok (.aload_n 0, 1) := by decide +kernel
theorem d_ps_bit_16 : decode b_ps_bit 16 = .ok (.aload 4, 2) := by decide +kernel
theorem d_ps_bit_18 : decode b_ps_bit 18 = .ok (.invokevirtual 114, 3) := by decide +kernel
theorem d_ps_bit_21 : decode b_ps_bit 21 = .ok (.iload 5, 2) := by decide +kernel
theorem d_ps_bit_23 : decode b_ps_bit 23 = .ok (.iand, 1) := by decide +kernel
theorem d_ps_bit_24 : decode b_ps_bit 24 = .ok (.ifCond .eq 7, 3) := by decide +kernel
theorem d_ps_bit_27 : decode b_ps_bit 27 = .ok (.iconst 1, 1) := by decide +kernel
theorem d_ps_bit_28 : decode b_ps_bit 28 = .ok (.goto 4, 3) := by decide +kernel
theorem d_ps_bit_31 : decode b_ps_bit 31 = .ok (.iconst 0, 1) := by decide +kernel
theorem d_ps_bit_32 : decode b_ps_bit 32 = .ok (.ireturn, 1) := by decide +kernel
theorem d_ps_found_0 : decode b_ps_found 0 = .ok (.aload_n 0, 1) := by decide +kernel
theorem d_ps_found_1 : decode b_ps_found 1 = .ok (.iload_n 1, 1) := by decide +kernel
theorem d_ps_found_2 : decode b_ps_found 2 = .ok (.invokevirtual 48, 3) := by decide +kernel
theorem d_ps_found_5 : decode b_ps_found 5 = .ok (.astore_n 3, 1) := by decide +kernel
theorem d_ps_found_6 : decode b_ps_found 6 = .ok (.iload_n 2, 1) := by decide +kernel
theorem d_ps_found_7 : decode b_ps_found 7 = .ok (.invokestatic 118, 3) := by decide +kernel
theorem d_ps_found_10 : decode b_ps_found 10 = .ok (.istore 4, 2) := by decide +kernel
theorem d_ps_found_12 : decode b_ps_found 12 = .ok (.aload_n 3, 1) := by decide +kernel
theorem d_ps_found_13 : decode b_ps_found 13 = .ok (.getfield 122, 3) := by decide +kernel
theorem d_ps_found_16 : decode b_ps_found 16 = .ok (.iload 4, 2) := by decide +kernel
theorem d_ps_found_18 : decode b_ps_found 18 = .ok (.iand, 1) := by decide +kernel
theorem d_ps_found_19 : decode b_ps_found 19 = .ok (.ifCond .ne 7, 3) := by decide +kernel
theorem d_ps_found_22 : decode b_ps_found 22 = .ok (.iconst 1, 1) := by decide +kernel
theorem d_ps_found_23 : decode b_ps_found 23 = .ok (.goto 4, 3) := by decide +kernel
theorem d_ps_found_26 : decode b_ps_found 26 = .ok (.iconst 0, 1) := by decide +kernel
theorem d_ps_found_27 : decode b_ps_found 27 = .ok (.istore 5, 2) := by decide +kernel
theorem d_ps_found_29 : decode b_ps_found 29 = .ok (.aload_n 3, 1) := by decide +kernel
theorem d_ps_found_30 : decode b_ps_found 30 = .ok (.dup, 1) := by decide +kernel
theorem d_ps_found_31 : decode b_ps_found 31 = .ok (.getfield 122, 3) := by decide +kernel
theorem d_ps_found_34 : decode b_ps_found 34 = .ok (.iload 4, 2) := by decide +kernel
theorem d_ps_found_36 : decode b_ps_found 36 = .ok (.ior, 1) := by decide +kernel
theorem d_ps_found_37 : decode b_ps_found 37 = .ok (.putfield 122, 3) := by decide +kernel
theorem d_ps_found_40 : decode b_ps_found 40 = .ok (.iload 5, 2) := by decide +kernel
theorem d_ps_found_42 : decode b_ps_found 42 = .ok (.ireturn, 1) := by decide +kernel
theorem d_ps_drop_0 : decode b_ps_drop 0 = .ok (.aload_n 0, 1) := by decide +kernel
theorem d_ps_drop_1 : decode b_ps_drop 1 = .ok (.getfield 29, 3) := by decide +kernel
theorem d_ps_drop_4 : decode b_ps_drop 4 = .ok (.arraylength, 1) := by decide +kernel
theorem d_ps_drop_5 : decode b_ps_drop 5 = .ok (.iconst 1, 1) := by decide +kernel
theorem d_ps_drop_6 : decode b_ps_drop 6 = .ok (.isub, 1) := by decide +kernel
theorem d_ps_drop_7 : decode b_ps_drop 7 = .ok (.istore_n 1, 1) := by decide +kernel
theorem d_ps_drop_8 : decode b_ps_drop 8 = .ok (.iload_n 1, 1) := by decide +kernel
theorem d_ps_drop_9 : decode b_ps_drop 9 = .ok (.ifCond .lt 39, 3) := by decide +kernel
theorem d_ps_drop_12 : decode b_ps_drop 12 = .ok (.aload_n 0, 1) := by decide +kernel
theorem d_ps_drop_13 : decode b_ps_drop 13 = .ok (.iload_n 1, 1) := by decide +kernel
theorem d_ps_drop_14 : decode b_ps_drop 14 = .ok (.invokevirtual 65, 3) := by decide +kernel
theorem d_ps_drop_17 : decode b_ps_drop 17 = .ok (.astore_n 2, 1) := by decide +kernel
theorem d_ps_drop_18 : decode b_ps_drop 18 = .ok (.aload_n 2, 1) := by decide +kernel
theorem d_ps_drop_19 : decode b_ps_drop 19 = .ok (.ifnull 23, 3) := by decide +kernel
theorem d_ps_drop_22 : decode b_ps_drop 22 = .ok (.aload_n 2, 1) := by decide +kernel
theorem d_ps_drop_23 : decode b_ps_drop 23 = .ok (.getfield 122, 3) := by decide +kernel
theorem d_ps_drop_26 : decode b_ps_drop 26 = .ok (.aload_n 0, 1) := by decide +kernel
theorem d_ps_drop_27 : decode b_ps_drop 27 = .ok (.iload_n 1, 1) := by decide +kernel
theorem d_ps_drop_28 : decode b_ps_drop 28 = .ok (.invokevirtual 125, 3) := by decide +kernel
theorem d_ps_drop_31 : decode b_ps_drop 31 = .ok (.iconst (-1), 1) := by decide +kernel
theorem d_ps_drop_32 : decode b_ps_drop 32 = .ok (.ixor, 1) := by decide +kernel
theorem d_ps_drop_33 : decode b_ps_drop 33 = .ok (.iand, 1) := by decide +kernel
theorem d_ps_drop_34 : decode b_ps_drop 34 = .ok (.ifCond .ne 8, 3) := by decide +kernel
theorem d_ps_drop_37 : decode b_ps_drop 37 = .ok (.aload_n 2, 1) := by decide +kernel
theorem d_ps_drop_38 : decode b_ps_drop 38 = .ok (.iconst 1, 1) := by decide +kernel
theorem d_ps_drop_39 : decode b_ps_drop 39 = .ok (.putfield 128, 3) := by decide +kernel
theorem d_ps_drop_42 : decode b_ps_drop 42 = .ok (.iinc 1 (-1), 3) := by decide +kernel
theorem d_ps_drop_45 : decode b_ps_drop 45 = .ok (.goto (-37), 3) := by decide +kernel
theorem d_ps_drop_48 : decode b_ps_drop 48 = .ok (.aload_n 0, 1) := by decide +kernel
theorem d_ps_drop_49 : decode b_ps_drop 49 = .ok (.invokevirtual 72, 3) := by decide +kernel
theorem d_ps_drop_52 : decode b_ps_drop 52 = .ok (.ireturn, 1) := by decide +kernel
theorem d_ps_finders_0 : decode b_ps_finders 0 = .ok (.iload_n 1, 1) := by decide +kernel
theorem d_ps_finders_1 : decode b_ps_finders 1 = .ok (.invokestatic 118, 3) := by decide +kernel
theorem d_ps_finders_4 : decode b_ps_finders 4 = .ok (.istore_n 2, 1) := by decide +kernel
theorem d_ps_finders_5 : decode b_ps_finders 5 = .ok (.iconst 0, 1) := by decide +kernel
theorem d_ps_finders_6 : decode b_ps_finders 6 = .ok (.istore_n 3, 1) := by decide +kernel
theorem d_ps_finders_7 : decode b_ps_finders 7 = .ok (.iconst 0, 1) := by decide +kernel
theorem d_ps_finders_8 : decode b_ps_finders 8 = .ok (.istore 4, 2) := by decide +kernel
theorem d_ps_finders_10 : decode b_ps_finders 10 = .ok (.iload 4, 2) := by decide +kernel
theorem d_ps_finders_12 : decode b_ps_finders 12 = .ok (.aload_n 0, 1) := by decide +kernel
theorem d_ps_finders_13 : decode b_ps_finders 13 = .ok (.getfield 29, 3) := by decide +kernel
theorem d_ps_finders_16 : decode b_ps_finders 16 = .ok (.arraylength, 1) := by decide +kernel
theorem d_ps_finders_17 : decode b_ps_finders 17 = .ok (.if_icmp .ge 35, 3) := by decide +kernel
theorem d_ps_finders_20 : decode b_ps_finders 20 = .ok (.aload_n 0, 1) := by decide +kernel
theorem d_ps_finders_21 : decode b_ps_finders 21 = .ok (.iload 4, 2) := by decide +kernel
theorem d_ps_finders_23 : decode b_ps_finders 23 = .ok (.invokevirtual 65, 3) := by decide +kernel
theorem d_ps_finders_26 : decode b_ps_finders 26 = .ok (.astore 5, 2) := by decide +kernel
theorem d_ps_finders_28 : decode b_ps_finders 28 = .ok (.aload 5, 2) := by decide +kernel
theorem d_ps_finders_30 : decode b_ps_finders 30 = .ok (.ifnull 16, 3) := by decide +kernel
theorem d_ps_finders_33 : decode b_ps_finders 33 = .ok (.aload 5, 2) := by decide +kernel
theorem d_ps_finders_35 : decode b_ps_finders 35 = .ok (.getfield 122, 3) := by decide +kernel
theorem d_ps_finders_38 : decode b_ps_finders 38 = .ok (.iload_n 2, 1) := by decide +kernel
theorem d_ps_finders_39 : decode b_ps_finders 39 = .ok (.iand, 1) := by decide +kernel
theorem d_ps_finders_40 : decode b_ps_finders 40 = .ok (.ifCond .eq 6, 3) := by decide +kernel
theorem d_ps_finders_43 : decode b_ps_finders 43 = .ok (.iinc 3 1, 3) := by decide +kernel
theorem d_ps_finders_46 : decode b_ps_finders 46 = .ok (.iinc 4 1, 3) := by decide +kernel
theorem d_ps_finders_49 : decode b_ps_finders 49 = .ok (.goto (-39), 3) := by decide +kernel
theorem d_ps_finders_52 : decode b_ps_finders 52 = .ok (.iload_n 3, 1) := by decide +kernel
theorem d_ps_finders_53 : decode b_ps_finders 53 = .ok (.ireturn, 1) := by decide +kernel
theorem d_ps_mask_0 : decode b_ps_mask 0 = .ok (.aload_n 0, 1) := by decide +kernel
theorem d_ps_mask_1 : decode b_ps_mask 1 = .ok (.iload_n 1, 1) := by decide +kernel
theorem d_ps_mask_2 : decode b_ps_mask 2 = .ok (.invokevirtual 48, 3) := by decide +kernel
theorem d_ps_mask_5 : decode b_ps_mask 5 = .ok (.astore 4, 2) := by decide +kernel
theorem d_ps_mask_7 : decode b_ps_mask 7 = .ok (.aload_n 0, 1) := by decide +kernel
theorem d_ps_mask_8 : decode b_ps_mask 8 = .ok (.iload_n 2, 1) := by decide +kernel
theorem d_ps_mask_9 : decode b_ps_mask 9 = .ok (.iload_n 3, 1) := by decide +kernel
theorem d_ps_mask_10 : decode b_ps_mask 10 = .ok (.invokevirtual 52, 3) := by decide +kernel
theorem d_ps_mask_13 : decode b_ps_mask 13 = .ok (.istore 5, 2) := by decide +kernel
theorem d_ps_mask_15 : decode b_ps_mask 15 = .ok (.aload 4, 2) := by decide +kernel
theorem d_ps_mask_17 : decode b_ps_mask 17 = .ok (.getfield 132, 3) := by decide +kernel
theorem d_ps_mask_20 : decode b_ps_mask 20 = .ok (.iload 5, 2) := by decide +kernel
theorem d_ps_mask_22 : decode b_ps_mask 22 = .ok (.iand, 1) := by decide +kernel
theorem d_ps_mask_23 : decode b_ps_mask 23 = .ok (.ifCond .ne 7, 3) := by decide +kernel
theorem d_ps_mask_26 : decode b_ps_mask 26 = .ok (.iconst 1, 1) := by decide +kernel
theorem d_ps_mask_27 : decode b_ps_mask 27 = .ok (.goto 4, 3) := by decide +kernel
theorem d_ps_mask_30 : decode b_ps_mask 30 = .ok (.iconst 0, 1) := by decide +kernel
theorem d_ps_mask_31 : decode b_ps_mask 31 = .ok (.istore 6, 2) := by decide +kernel
theorem d_ps_mask_33 : decode b_ps_mask 33 = .ok (.aload 4, 2) := by decide +kernel
theorem d_ps_mask_35 : decode b_ps_mask 35 = .ok (.dup, 1) := by decide +kernel
theorem d_ps_mask_36 : decode b_ps_mask 36 = .ok (.getfield 132, 3) := by decide +kernel
theorem d_ps_mask_39 : decode b_ps_mask 39 = .ok (.iload 5, 2) := by decide +kernel
theorem d_ps_mask_41 : decode b_ps_mask 41 = .ok (.ior, 1) := by decide +kernel
theorem d_ps_mask_42 : decode b_ps_mask 42 = .ok (.putfield 132, 3) := by decide +kernel
theorem d_ps_mask_45 : decode b_ps_mask 45 = .ok (.iload 6, 2) := by decide +kernel
theorem d_ps_mask_47 : decode b_ps_mask 47 = .ok (.ireturn, 1) := by decide +kernel
theorem d_ps_signature_0 : decode b_ps_signature 0 = .ok (.iload_n 1, 1) := by decide +kernel
theorem d_ps_signature_1 : decode b_ps_signature 1 = .ok (.ifCond .lt 8, 3) := by decide +kernel
theorem d_ps_signature_4 : decode b_ps_signature 4 = .ok (.iload_n 2, 1) := by decide +kernel
theorem d_ps_signature_5 : decode b_ps_signature 5 = .ok (.iload_n 1, 1) := by decide +kernel
theorem d_ps_signature_6 : decode b_ps_signature 6 = .ok (.if_icmp .ge 13, 3) := by decide +kernel
theorem d_ps_signature_9 : decode b_ps_signature 9 = .ok (.new 56, 3) := by decide +kernel
theorem d_ps_signature_12 : decode b_ps_signature 12 = .ok (.dup, 1) := by decide +kernel
theorem d_ps_signature_13 : decode b_ps_signature 13 = .ok (.ldc 135, 2) := by decide +kernel
theorem d_ps_signature_15 : decode b_ps_signature 15 = .ok (.invokespecial 60, 3) := by decide +kernel
theorem d_ps_signature_18 : decode b_ps_signature 18 = .ok (.athrow, 1) := by decide +kernel
theorem d_ps_signature_19 : decode b_ps_signature 19 = .ok (.iload_n 2, 1) := by decide +kernel
theorem d_ps_signature_20 : decode b_ps_signature 20 = .ok (.aload_n 0, 1) := by decide +kernel
theorem d_ps_signature_21 : decode b_ps_signature 21 = .ok (.getfield 29, 3) := by decide +kernel
theorem d_ps_signature_24 : decode b_ps_signature 24 = .ok (.arraylength, 1) := by decide +kernel
theorem d_ps_signature_25 : decode b_ps_signature 25 = .ok (.iconst 1, 1) := by decide +kernel
theorem d_ps_signature_26 : decode b_ps_signature 26 = .ok (.isub, 1) := by decide +kernel
theorem d_ps_signature_27 : decode b_ps_signature 27 = .ok (.invokestatic 137, 3) := by decide +kernel
theorem d_ps_signature_30 : decode b_ps_signature 30 = .ok (.istore_n 3, 1) := by decide +kernel
theorem d_ps_signature_31 : decode b_ps_signature 31 = .ok (.iconst 0, 1) := by decide +kernel
theorem d_ps_signature_32 : decode b_ps_signature 32 = .ok (.istore 4, 2) := by decide +kernel
theorem d_ps_signature_34 : decode b_ps_signature 34 = .ok (.iload_n 1, 1) := by decide +kernel
theorem d_ps_signature_35 : decode b_ps_signature 35 = .ok (.istore 5, 2) := by decide +kernel
theorem d_ps_signature_37 : decode b_ps_signature 37 = .ok (.iload 5, 2) := by decide +kernel
theorem d_ps_signature_39 : decode b_ps_signature 39 = .ok (.iload_n 3, 1) := by decide +kernel
theorem d_ps_signature_40 : decode b_ps_signature 40 = .ok (.if_icmp .gt 47, 3) := by decide +kernel
theorem d_ps_signature_43 : decode b_ps_signature 43 = .ok (.aload_n 0, 1) := by decide +kernel
theorem d_ps_signature_44 : decode b_ps_signature 44 = .ok (.iload 5, 2) := by decide +kernel
theorem d_ps_signature_46 : decode b_ps_signature 46 = .ok (.invokevirtual 65, 3) := by decide +kernel
theorem d_ps_signature_49 : decode b_ps_signature 49 = .ok (.astore 6, 2) := by decide +kernel
theorem d_ps_signature_51 : decode b_ps_signature 51 = .ok (.aload 6, 2) := by decide +kernel
theorem d_ps_signature_53 : decode b_ps_signature 53 = .ok (.ifnull 28, 3) := by decide +kernel
theorem d_ps_signature_56 : decode b_ps_signature 56 = .ok (.aload_n 0, 1) := by decide +kernel
theorem d_ps_signature_57 : decode b_ps_signature 57 = .ok (.getfield 23, 3) := by decide +kernel
theorem d_ps_signature_60 : decode b_ps_signature 60 = .ok (.iload 4, 2) := by decide +kernel
theorem d_ps_signature_62 : decode b_ps_signature 62 = .ok (.aload_n 0, 1) := by decide +kernel
theorem d_ps_signature_63 : decode b_ps_signature 63 = .ok (.aload 6, 2) := by decide +kernel
theorem d_ps_signature_65 : decode b_ps_signature 65 = .ok (.invokevirtual 114, 3) := by decide +kernel
theorem d_ps_signature_68 : decode b_ps_signature 68 = .ok (.aload 6, 2) := by decide +kernel
theorem d_ps_signature_70 : decode b_ps_signature 70 = .ok (.getfield 132, 3) := by decide +kernel
theorem d_ps_signature_73 : decode b_ps_signature 73 = .ok (.iconst (-1), 1) := by decide +kernel
theorem d_ps_signature_74 : decode b_ps_signature 74 = .ok (.ixor, 1) := by decide +kernel
theorem d_ps_signature_75 : decode b_ps_signature 75 = .ok (.iand, 1) := by decide +kernel
theorem d_ps_signature_76 : decode b_ps_signature 76 = .ok (.invokevirtual 142, 3) := by decide +kernel
theorem d_ps_signature_79 : decode b_ps_signature 79 = .ok (.istore 4, 2) := by decide +kernel
theorem d_ps_signature_81 : decode b_ps_signature 81 = .ok (.iinc 5 1, 3) := by decide +kernel
theorem d_ps_signature_84 : decode b_ps_signature 84 = .ok (.goto (-47), 3) := by decide +kernel
theorem d_ps_signature_87 : decode b_ps_signature 87 = .ok (.iload 4, 2) := by decide +kernel
theorem d_ps_signature_89 : decode b_ps_signature 89 = .ok (.i2l, 1) := by decide +kernel
theorem d_ps_signature_90 : decode b_ps_signature 90 = .ok (.lreturn, 1) := by decide +kernel
theorem d_ps_primitive_0 : decode b_ps_primitive 0 = .ok (.aload_n 0, 1) := by decide +kernel
theorem d_ps_primitive_1 : decode b_ps_primitive 1 = .ok (.getfield 23, 3) := by decide +kernel
theorem d_ps_primitive_4 : decode b_ps_primitive 4 = .ok (.invokevirtual 145, 3) := by decide +kernel
theorem d_ps_primitive_7 : decode b_ps_primitive 7 = .ok (.ireturn, 1) := by decide +kernel
theorem d_ps_alias_0 : decode b_ps_alias 0 = .ok (.iload_n 1, 1) := by decide +kernel
theorem d_ps_alias_1 : decode b_ps_alias 1 = .ok (.iconst 1, 1) := by decide +kernel
theorem d_ps_alias_2 : decode b_ps_alias 2 = .ok (.if_icmp .lt 9, 3) := by decide +kernel
theorem d_ps_alias_5 : decode b_ps_alias 5 = .ok (.iload_n 1, 1) := by decide +kernel
theorem d_ps_alias_6 : decode b_ps_alias 6 = .ok (.bipush 60, 2) := by decide +kernel
theorem d_ps_alias_8 : decode b_ps_alias 8 = .ok (.if_icmp .le 13, 3) := by decide +kernel
theorem d_ps_alias_11 : decode b_ps_alias 11 = .ok (.new 56, 3) := by decide +kernel
theorem d_ps_alias_14 : decode b_ps_alias 14 = .ok (.dup, 1) := by decide +kernel
theorem d_ps_alias_15 : decode b_ps_alias 15 = .ok (.ldc 149, 2) := by decide +kernel
theorem d_ps_alias_17 : decode b_ps_alias 17 = .ok (.invokespecial 60, 3) := by decide +kernel
theorem d_ps_alias_20 : decode b_ps_alias 20 = .ok (.athrow, 1) := by decide +kernel
theorem d_ps_alias_21 : decode b_ps_alias 21 = .ok (.iload_n 2, 1) := by decide +kernel
theorem d_ps_alias_22 : decode b_ps_alias 22 = .ok (.ifCond .eq 18, 3) := by decide +kernel
theorem d_ps_alias_25 : decode b_ps_alias 25 = .ok (.iload_n 2, 1) := by decide +kernel
theorem d_ps_alias_26 : decode b_ps_alias 26 = .ok (.iconst 1, 1) := by decide +kernel
theorem d_ps_alias_27 : decode b_ps_alias 27 = .ok (.if_icmp .eq 13, 3) := by decide +kernel
theorem d_ps_alias_30 : decode b_ps_alias 30 = .ok (.new 56, 3) := by decide +kernel
theorem d_ps_alias_33 : decode b_ps_alias 33 = .ok (.dup, 1) := by decide +kernel
theorem d_ps_alias_34 : decode b_ps_alias 34 = .ok (.ldc 151, 2) := by decide +kernel
theorem d_ps_alias_36 : decode b_ps_alias 36 = .ok (.invokespecial 60, 3) := by decide +kernel
theorem d_ps_alias_39 : decode b_ps_alias 39 = .ok (.athrow, 1) := by decide +kernel
theorem d_ps_alias_40 : decode b_ps_alias 40 = .ok (.iconst 0, 1) := by decide +kernel
theorem d_ps_alias_41 : decode b_ps_alias 41 = .ok (.iload_n 1, 1) := by decide +kernel
theorem d_ps_alias_42 : decode b_ps_alias 42 = .ok (.aload_n 0, 1) := by decide +kernel
theorem d_ps_alias_43 : decode b_ps_alias 43 = .ok (.getfield 23, 3) := by decide +kernel
theorem d_ps_alias_46 : decode b_ps_alias 46 = .ok (.getfield 85, 3) := by decide +kernel
theorem d_ps_alias_49 : decode b_ps_alias 49 = .ok (.isub, 1) := by decide +kernel
theorem d_ps_alias_50 : decode b_ps_alias 50 = .ok (.invokestatic 153, 3) := by decide +kernel
theorem d_ps_alias_53 : decode b_ps_alias 53 = .ok (.istore_n 3, 1) := by decide +kernel
theorem d_ps_alias_54 : decode b_ps_alias 54 = .ok (.lconst 1, 1) := by decide +kernel
theorem d_ps_alias_55 : decode b_ps_alias 55 = .ok (.iload_n 3, 1) := by decide +kernel
theorem d_ps_alias_56 : decode b_ps_alias 56 = .ok (.lshl, 1) := by decide +kernel
theorem d_ps_alias_57 : decode b_ps_alias 57 = .ok (.lconst 1, 1) := by decide +kernel
theorem d_ps_alias_58 : decode b_ps_alias 58 = .ok (.lsub, 1) := by decide +kernel
theorem d_ps_alias_59 : decode b_ps_alias 59 = .ok (.lstore 4, 2) := by decide +kernel
theorem d_ps_alias_61 : decode b_ps_alias 61 = .ok (.lconst 1, 1) := by decide +kernel
theorem d_ps_alias_62 : decode b_ps_alias 62 = .ok (.iload_n 1, 1) := by decide +kernel
theorem d_ps_alias_63 : decode b_ps_alias 63 = .ok (.lshl, 1) := by decide +kernel
theorem d_ps_alias_64 : decode b_ps_alias 64 = .ok (.lconst 1, 1) := by decide +kernel
theorem d_ps_alias_65 : decode b_ps_alias 65 = .ok (.lsub, 1) := by decide +kernel
theorem d_ps_alias_66 : decode b_ps_alias 66 = .ok (.lstore 6, 2) := by decide +kernel
theorem d_ps_alias_68 : decode b_ps_alias 68 = .ok (.iload_n 2, 1) := by decide +kernel
theorem d_ps_alias_69 : decode b_ps_alias 69 = .ok (.ifCond .ne 8, 3) := by decide +kernel
theorem d_ps_alias_72 : decode b_ps_alias 72 = .ok (.lload 4, 2) := by decide +kernel
theorem d_ps_alias_74 : decode b_ps_alias 74 = .ok (.goto 5, 3) := by decide +kernel
theorem d_ps_alias_77 : decode b_ps_alias 77 = .ok (.lload 6, 2) := by decide +kernel
theorem d_ps_alias_79 : decode b_ps_alias 79 = .ok (.lload 6, 2) := by decide +kernel
theorem d_ps_alias_81 : decode b_ps_alias 81 = .ok (.lload 4, 2) := by decide +kernel
theorem d_ps_alias_83 : decode b_ps_alias 83 = .ok (.invokestatic 156, 3) := by decide +kernel
theorem d_ps_alias_86 : decode b_ps_alias 86 = .ok (.ldiv, 1) := by decide +kernel
theorem d_ps_alias_87 : decode b_ps_alias 87 = .ok (.lreturn, 1) := by decide +kernel
theorem d_ps_fill_0 : decode b_ps_fill 0 = .ok (.iload_n 1, 1) := by decide +kernel
theorem d_ps_fill_1 : decode b_ps_fill 1 = .ok (.ifCond .lt 8, 3) := by decide +kernel
theorem d_ps_fill_4 : decode b_ps_fill 4 = .ok (.iload_n 1, 1) := by decide +kernel
theorem d_ps_fill_5 : decode b_ps_fill 5 = .ok (.iconst 2, 1) := by decide +kernel
theorem d_ps_fill_6 : decode b_ps_fill 6 = .ok (.if_icmp .le 13, 3) := by decide +kernel
theorem d_ps_fill_9 : decode b_ps_fill 9 = .ok (.new 56, 3) := by decide +kernel
theorem d_ps_fill_12 : decode b_ps_fill 12 = .ok (.dup, 1) := by decide +kernel
theorem d_ps_fill_13 : decode b_ps_fill 13 = .ok (.ldc 160, 2) := by decide +kernel
theorem d_ps_fill_15 : decode b_ps_fill 15 = .ok (.invokespecial 60, 3) := by decide +kernel
theorem d_ps_fill_18 : decode b_ps_fill 18 = .ok (.athrow, 1) := by decide +kernel
theorem d_ps_fill_19 : decode b_ps_fill 19 = .ok (.iload_n 1, 1) := by decide +kernel
theorem d_ps_fill_20 : decode b_ps_fill 20 = .ok (.aload_n 0, 1) := by decide +kernel
theorem d_ps_fill_21 : decode b_ps_fill 21 = .ok (.getfield 37, 3) := by decide +kernel
theorem d_ps_fill_24 : decode b_ps_fill 24 = .ok (.if_icmp .eq 7, 3) := by decide +kernel
theorem d_ps_fill_27 : decode b_ps_fill 27 = .ok (.iconst 1, 1) := by decide +kernel
theorem d_ps_fill_28 : decode b_ps_fill 28 = .ok (.goto 4, 3) := by decide +kernel
theorem d_ps_fill_31 : decode b_ps_fill 31 = .ok (.iconst 0, 1) := by decide +kernel
theorem d_ps_fill_32 : decode b_ps_fill 32 = .ok (.istore_n 2, 1) := by decide +kernel
theorem d_ps_fill_33 : decode b_ps_fill 33 = .ok (.aload_n 0, 1) := by decide +kernel
theorem d_ps_fill_34 : decode b_ps_fill 34 = .ok (.iload_n 1, 1) := by decide +kernel
theorem d_ps_fill_35 : decode b_ps_fill 35 = .ok (.putfield 37, 3) := by decide +kernel
theorem d_ps_fill_38 : decode b_ps_fill 38 = .ok (.iload_n 2, 1) := by decide +kernel
theorem d_ps_fill_39 : decode b_ps_fill 39 = .ok (.ireturn, 1) := by decide +kernel
theorem d_ps_shifts_0 : decode b_ps_shifts 0 = .ok (.aload_n 0, 1) := by decide +kernel
theorem d_ps_shifts_1 : decode b_ps_shifts 1 = .ok (.aload_n 0, 1) := by decide +kernel
theorem d_ps_shifts_2 : decode b_ps_shifts 2 = .ok (.iload_n 1, 1) := by decide +kernel
theorem d_ps_shifts_3 : decode b_ps_shifts 3 = .ok (.invokevirtual 48, 3) := by decide +kernel
theorem d_ps_shifts_6 : decode b_ps_shifts 6 = .ok (.invokevirtual 114, 3) := by decide +kernel
theorem d_ps_shifts_9 : decode b_ps_shifts 9 = .ok (.istore_n 2, 1) := by decide +kernel
theorem d_ps_shifts_10 : decode b_ps_shifts 10 = .ok (.lconst 0, 1) := by decide +kernel
theorem d_ps_shifts_11 : decode b_ps_shifts 11 = .ok (.lstore_n 3, 1) := by decide +kernel
theorem d_ps_shifts_12 : decode b_ps_shifts 12 = .ok (.iconst 0, 1) := by decide +kernel
theorem d_ps_shifts_13 : decode b_ps_shifts 13 = .ok (.istore 5, 2) := by decide +kernel
theorem d_ps_shifts_15 : decode b_ps_shifts 15 = .ok (.iload 5, 2) := by decide +kernel
theorem d_ps_shifts_17 : decode b_ps_shifts 17 = .ok (.aload_n 0, 1) := by decide +kernel
theorem d_ps_shifts_18 : decode b_ps_shifts 18 = .ok (.getfield 12, 3) := by decide +kernel
theorem d_ps_shifts_21 : decode b_ps_shifts 21 = .ok (.getfield 162, 3) := by decide +kernel
theorem d_ps_shifts_24 : decode b_ps_shifts 24 = .ok (.if_icmp .ge 87, 3) := by decide +kernel
theorem d_ps_shifts_27 : decode b_ps_shifts 27 = .ok (.iconst 0, 1) := by decide +kernel
theorem d_ps_shifts_28 : decode b_ps_shifts 28 = .ok (.istore 6, 2) := by decide +kernel
theorem d_ps_shifts_30 : decode b_ps_shifts 30 = .ok (.iload 6, 2) := by decide +kernel
theorem d_ps_shifts_32 : decode b_ps_shifts 32 = .ok (.iconst 1, 1) := by decide +kernel
theorem d_ps_shifts_33 : decode b_ps_shifts 33 = .ok (.iadd, 1) := by decide +kernel
theorem d_ps_shifts_34 : decode b_ps_shifts 34 = .ok (.aload_n 0, 1) := by decide +kernel
theorem d_ps_shifts_35 : decode b_ps_shifts 35 = .ok (.getfield 12, 3) := by decide +kernel
theorem d_ps_shifts_38 : decode b_ps_shifts 38 = .ok (.getfield 165, 3) := by decide +kernel
theorem d_ps_shifts_41 : decode b_ps_shifts 41 = .ok (.if_icmp .ge 64, 3) := by decide +kernel
theorem d_ps_shifts_44 : decode b_ps_shifts 44 = .ok (.iload_n 2, 1) := by decide +kernel
theorem d_ps_shifts_45 : decode b_ps_shifts 45 = .ok (.iload 5, 2) := by decide +kernel
theorem d_ps_shifts_47 : decode b_ps_shifts 47 = .ok (.iload 6, 2) := by decide +kernel
theorem d_ps_shifts_49 : decode b_ps_shifts 49 = .ok (.invokestatic 168, 3) := by decide +kernel
theorem d_ps_shifts_52 : decode b_ps_shifts 52 = .ok (.iand, 1) := by decide +kernel
theorem d_ps_shifts_53 : decode b_ps_shifts 53 = .ok (.ifCond .eq 7, 3) := by decide +kernel
theorem d_ps_shifts_56 : decode b_ps_shifts 56 = .ok (.iconst 1, 1) := by decide +kernel
theorem d_ps_shifts_57 : decode b_ps_shifts 57 = .ok (.goto 4, 3) := by decide +kernel
theorem d_ps_shifts_60 : decode b_ps_shifts 60 = .ok (.iconst 0, 1) := by decide +kernel
theorem d_ps_shifts_61 : decode b_ps_shifts 61 = .ok (.istore 7, 2) := by decide +kernel
theorem d_ps_shifts_63 : decode b_ps_shifts 63 = .ok (.iload_n 2, 1) := by decide +kernel
theorem d_ps_shifts_64 : decode b_ps_shifts 64 = .ok (.iload 5, 2) := by decide +kernel
theorem d_ps_shifts_66 : decode b_ps_shifts 66 = .ok (.iload 6, 2) := by decide +kernel
theorem d_ps_shifts_68 : decode b_ps_shifts 68 = .ok (.iconst 1, 1) := by decide +kernel
theorem d_ps_shifts_69 : decode b_ps_shifts 69 = .ok (.iadd, 1) := by decide +kernel
theorem d_ps_shifts_70 : decode b_ps_shifts 70 = .ok (.invokestatic 168, 3) := by decide +kernel
theorem d_ps_shifts_73 : decode b_ps_shifts 73 = .ok (.iand, 1) := by decide +kernel
theorem d_ps_shifts_74 : decode b_ps_shifts 74 = .ok (.ifCond .eq 7, 3) := by decide +kernel
theorem d_ps_shifts_77 : decode b_ps_shifts 77 = .ok (.iconst 1, 1) := by decide +kernel
theorem d_ps_shifts_78 : decode b_ps_shifts 78 = .ok (.goto 4, 3) := by decide +kernel
theorem d_ps_shifts_81 : decode b_ps_shifts 81 = .ok (.iconst 0, 1) := by decide +kernel
theorem d_ps_shifts_82 : decode b_ps_shifts 82 = .ok (.istore 8, 2) := by decide +kernel
theorem d_ps_shifts_84 : decode b_ps_shifts 84 = .ok (.iload 7, 2) := by decide +kernel
theorem d_ps_shifts_86 : decode b_ps_shifts 86 = .ok (.iload 8, 2) := by decide +kernel
theorem d_ps_shifts_88 : decode b_ps_shifts 88 = .ok (.if_icmp .eq 11, 3) := by decide +kernel
theorem d_ps_shifts_91 : decode b_ps_shifts 91 = .ok (.lload_n 3, 1) := by decide +kernel
theorem d_ps_shifts_92 : decode b_ps_shifts 92 = .ok (.iload 6, 2) := by decide +kernel
theorem d_ps_shifts_94 : decode b_ps_shifts 94 = .ok (.iconst 1, 1) := by decide +kernel
theorem d_ps_shifts_95 : decode b_ps_shifts 95 = .ok (.iadd, 1) := by decide +kernel
theorem d_ps_shifts_96 : decode b_ps_shifts 96 = .ok (.i2l, 1) := by decide +kernel
theorem d_ps_shifts_97 : decode b_ps_shifts 97 = .ok (.ladd, 1) := by decide +kernel
theorem d_ps_shifts_98 : decode b_ps_shifts 98 = .ok (.lstore_n 3, 1) := by decide +kernel
theorem d_ps_shifts_99 : decode b_ps_shifts 99 = .ok (.iinc 6 1, 3) := by decide +kernel
theorem d_ps_shifts_102 : decode b_ps_shifts 102 = .ok (.goto (-72), 3) := by decide +kernel
theorem d_ps_shifts_105 : decode b_ps_shifts 105 = .ok (.iinc 5 1, 3) := by decide +kernel
theorem d_ps_shifts_108 : decode b_ps_shifts 108 = .ok (.goto (-93), 3) := by decide +kernel
theorem d_ps_shifts_111 : decode b_ps_shifts 111 = .ok (.lload_n 3, 1) := by decide +kernel
theorem d_ps_shifts_112 : decode b_ps_shifts 112 = .ok (.lreturn, 1) := by decide +kernel
end
section
theorem d_ps_count_0 : decode b_ps_count 0 = .ok (.iload_n 1, 1) := by decide +kernel
theorem d_ps_count_1 : decode b_ps_count 1 = .ok (.tableswitch 67 0 4 #[35, 40, 45, 50, 58], 35) := by decide +kernel
theorem d_ps_count_36 : decode b_ps_count 36 = .ok (.aload_n 0, 1) := by decide +kernel
theorem d_ps_count_37 : decode b_ps_count 37 = .ok (.invokevirtual 72, 3) := by decide +kernel
theorem d_ps_count_40 : decode b_ps_count 40 = .ok (.ireturn, 1) := by decide +kernel
theorem d_ps_count_41 : decode b_ps_count 41 = .ok (.aload_n 0, 1) := by decide +kernel
theorem d_ps_count_42 : decode b_ps_count 42 = .ok (.invokevirtual 171, 3) := by decide +kernel
theorem d_ps_count_45 : decode b_ps_count 45 = .ok (.ireturn, 1) := by decide +kernel
theorem d_ps_count_46 : decode b_ps_count 46 = .ok (.aload_n 0, 1) := by decide +kernel
theorem d_ps_count_47 : decode b_ps_count 47 = .ok (.invokevirtual 174, 3) := by decide +kernel
theorem d_ps_count_50 : decode b_ps_count 50 = .ok (.ireturn, 1) := by decide +kernel
theorem d_ps_count_51 : decode b_ps_count 51 = .ok (.aload_n 0, 1) := by decide +kernel
theorem d_ps_count_52 : decode b_ps_count 52 = .ok (.getfield 23, 3) := by decide +kernel
theorem d_ps_count_55 : decode b_ps_count 55 = .ok (.getfield 85, 3) := by decide +kernel
theorem d_ps_count_58 : decode b_ps_count 58 = .ok (.ireturn, 1) := by decide +kernel
theorem d_ps_count_59 : decode b_ps_count 59 = .ok (.aload_n 0, 1) := by decide +kernel
theorem d_ps_count_60 : decode b_ps_count 60 = .ok (.iconst (-1), 1) := by decide +kernel
theorem d_ps_count_61 : decode b_ps_count 61 = .ok (.invokevirtual 125, 3) := by decide +kernel
theorem d_ps_count_64 : decode b_ps_count 64 = .ok (.invokestatic 177, 3) := by decide +kernel
theorem d_ps_count_67 : decode b_ps_count 67 = .ok (.ireturn, 1) := by decide +kernel
theorem d_ps_count_68 : decode b_ps_count 68 = .ok (.new 88, 3) := by decide +kernel
theorem d_ps_count_71 : decode b_ps_count 71 = .ok (.dup, 1) := by decide +kernel
theorem d_ps_count_72 : decode b_ps_count 72 = .ok (.ldc 182, 2) := by decide +kernel
theorem d_ps_count_74 : decode b_ps_count 74 = .ok (.invokespecial 92, 3) := by decide +kernel
theorem d_ps_count_77 : decode b_ps_count 77 = .ok (.athrow, 1) := by decide +kernel
theorem d_ps_presentOrNull_0 : decode b_ps_presentOrNull 0 = .ok (.iload_n 1, 1) := by decide +kernel
theorem d_ps_presentOrNull_1 : decode b_ps_presentOrNull 1 = .ok (.ifCond .lt 12, 3) := by decide +kernel
theorem d_ps_presentOrNull_4 : decode b_ps_presentOrNull 4 = .ok (.iload_n 1, 1) := by decide +kernel
theorem d_ps_presentOrNull_5 : decode b_ps_presentOrNull 5 = .ok (.aload_n 0, 1) := by decide +kernel
theorem d_ps_presentOrNull_6 : decode b_ps_presentOrNull 6 = .ok (.getfield 29, 3) := by decide +kernel
theorem d_ps_presentOrNull_9 : decode b_ps_presentOrNull 9 = .ok (.arraylength, 1) := by decide +kernel
theorem d_ps_presentOrNull_10 : decode b_ps_presentOrNull 10 = .ok (.if_icmp .lt 5, 3) := by decide +kernel
theorem d_ps_presentOrNull_13 : decode b_ps_presentOrNull 13 = .ok (.aconst_null, 1) := by decide +kernel
theorem d_ps_presentOrNull_14 : decode b_ps_presentOrNull 14 = .ok (.areturn, 1) := by decide +kernel
theorem d_ps_presentOrNull_15 : decode b_ps_presentOrNull 15 = .ok (.aload_n 0, 1) := by decide +kernel
theorem d_ps_presentOrNull_16 : decode b_ps_presentOrNull 16 = .ok (.getfield 29, 3) := by decide +kernel
theorem d_ps_presentOrNull_19 : decode b_ps_presentOrNull 19 = .ok (.iload_n 1, 1) := by decide +kernel
theorem d_ps_presentOrNull_20 : decode b_ps_presentOrNull 20 = .ok (.aaload, 1) := by decide +kernel
theorem d_ps_presentOrNull_21 : decode b_ps_presentOrNull 21 = .ok (.astore_n 2, 1) := by decide +kernel
theorem d_ps_presentOrNull_22 : decode b_ps_presentOrNull 22 = .ok (.aload_n 2, 1) := by decide +kernel
theorem d_ps_presentOrNull_23 : decode b_ps_presentOrNull 23 = .ok (.ifnull 10, 3) := by decide +kernel
theorem d_ps_presentOrNull_26 : decode b_ps_presentOrNull 26 = .ok (.aload_n 2, 1) := by decide +kernel
theorem d_ps_presentOrNull_27 : decode b_ps_presentOrNull 27 = .ok (.getfield 128, 3) := by decide +kernel
theorem d_ps_presentOrNull_30 : decode b_ps_presentOrNull 30 = .ok (.ifCond .eq 7, 3) := by decide +kernel
theorem d_ps_presentOrNull_33 : decode b_ps_presentOrNull 33 = .ok (.aconst_null, 1) := by decide +kernel
theorem d_ps_presentOrNull_34 : decode b_ps_presentOrNull 34 = .ok (.goto 4, 3) := by decide +kernel
theorem d_ps_presentOrNull_37 : decode b_ps_presentOrNull 37 = .ok (.aload_n 2, 1) := by decide +kernel
theorem d_ps_presentOrNull_38 : decode b_ps_presentOrNull 38 = .ok (.areturn, 1) := by decide +kernel
theorem d_ps_present_0 : decode b_ps_present 0 = .ok (.aload_n 0, 1) := by decide +kernel
theorem d_ps_present_1 : decode b_ps_present 1 = .ok (.iload_n 1, 1) := by decide +kernel
theorem d_ps_present_2 : decode b_ps_present 2 = .ok (.invokevirtual 65, 3) := by decide +kernel
theorem d_ps_present_5 : decode b_ps_present 5 = .ok (.astore_n 2, 1) := by decide +kernel
theorem d_ps_present_6 : decode b_ps_present 6 = .ok (.aload_n 2, 1) := by decide +kernel
theorem d_ps_present_7 : decode b_ps_present 7 = .ok (.ifnonnull 13, 3) := by decide +kernel
theorem d_ps_present_10 : decode b_ps_present 10 = .ok (.new 88, 3) := by decide +kernel
theorem d_ps_present_13 : decode b_ps_present 13 = .ok (.dup, 1) := by decide +kernel
theorem d_ps_present_14 : decode b_ps_present 14 = .ok (.ldc 184, 2) := by decide +kernel
theorem d_ps_present_16 : decode b_ps_present 16 = .ok (.invokespecial 92, 3) := by decide +kernel
theorem d_ps_present_19 : decode b_ps_present 19 = .ok (.athrow, 1) := by decide +kernel
theorem d_ps_present_20 : decode b_ps_present 20 = .ok (.aload_n 2, 1) := by decide +kernel
theorem d_ps_present_21 : decode b_ps_present 21 = .ok (.areturn, 1) := by decide +kernel
theorem d_ps_existingPlace_0 : decode b_ps_existingPlace 0 = .ok (.iload_n 1, 1) := by decide +kernel
theorem d_ps_existingPlace_1 : decode b_ps_existingPlace 1 = .ok (.ifCond .lt 29, 3) := by decide +kernel
theorem d_ps_existingPlace_4 : decode b_ps_existingPlace 4 = .ok (.iload_n 1, 1) := by decide +kernel
theorem d_ps_existingPlace_5 : decode b_ps_existingPlace 5 = .ok (.aload_n 0, 1) := by decide +kernel
theorem d_ps_existingPlace_6 : decode b_ps_existingPlace 6 = .ok (.getfield 12, 3) := by decide +kernel
theorem d_ps_existingPlace_9 : decode b_ps_existingPlace 9 = .ok (.getfield 162, 3) := by decide +kernel
theorem d_ps_existingPlace_12 : decode b_ps_existingPlace 12 = .ok (.if_icmp .ge 18, 3) := by decide +kernel
theorem d_ps_existingPlace_15 : decode b_ps_existingPlace 15 = .ok (.iload_n 2, 1) := by decide +kernel
theorem d_ps_existingPlace_16 : decode b_ps_existingPlace 16 = .ok (.ifCond .lt 14, 3) := by decide +kernel
theorem d_ps_existingPlace_19 : decode b_ps_existingPlace 19 = .ok (.iload_n 2, 1) := by decide +kernel
theorem d_ps_existingPlace_20 : decode b_ps_existingPlace 20 = .ok (.aload_n 0, 1) := by decide +kernel
theorem d_ps_existingPlace_21 : decode b_ps_existingPlace 21 = .ok (.getfield 12, 3) := by decide +kernel
theorem d_ps_existingPlace_24 : decode b_ps_existingPlace 24 = .ok (.getfield 165, 3) := by decide +kernel
theorem d_ps_existingPlace_27 : decode b_ps_existingPlace 27 = .ok (.if_icmp .lt 13, 3) := by decide +kernel
theorem d_ps_existingPlace_30 : decode b_ps_existingPlace 30 = .ok (.new 88, 3) := by decide +kernel
theorem d_ps_existingPlace_33 : decode b_ps_existingPlace 33 = .ok (.dup, 1) := by decide +kernel
theorem d_ps_existingPlace_34 : decode b_ps_existingPlace 34 = .ok (.ldc 186, 2) := by decide +kernel
theorem d_ps_existingPlace_36 : decode b_ps_existingPlace 36 = .ok (.invokespecial 92, 3) := by decide +kernel
theorem d_ps_existingPlace_39 : decode b_ps_existingPlace 39 = .ok (.athrow, 1) := by decide +kernel
theorem d_ps_existingPlace_40 : decode b_ps_existingPlace 40 = .ok (.iload_n 1, 1) := by decide +kernel
theorem d_ps_existingPlace_41 : decode b_ps_existingPlace 41 = .ok (.iload_n 2, 1) := by decide +kernel
theorem d_ps_existingPlace_42 : decode b_ps_existingPlace 42 = .ok (.invokestatic 168, 3) := by decide +kernel
theorem d_ps_existingPlace_45 : decode b_ps_existingPlace 45 = .ok (.ireturn, 1) := by decide +kernel
theorem d_ps_existingFault_0 : decode b_ps_existingFault 0 = .ok (.iload_n 0, 1) := by decide +kernel
theorem d_ps_existingFault_1 : decode b_ps_existingFault 1 = .ok (.ifCond .lt 9, 3) := by decide +kernel
theorem d_ps_existingFault_4 : decode b_ps_existingFault 4 = .ok (.iload_n 0, 1) := by decide +kernel
theorem d_ps_existingFault_5 : decode b_ps_existingFault 5 = .ok (.bipush 31, 2) := by decide +kernel
theorem d_ps_existingFault_7 : decode b_ps_existingFault 7 = .ok (.if_icmp .lt 13, 3) := by decide +kernel
theorem d_ps_existingFault_10 : decode b_ps_existingFault 10 = .ok (.new 88, 3) := by decide +kernel
theorem d_ps_existingFault_13 : decode b_ps_existingFault 13 = .ok (.dup, 1) := by decide +kernel
theorem d_ps_existingFault_14 : decode b_ps_existingFault 14 = .ok (.ldc 188, 2) := by decide +kernel
theorem d_ps_existingFault_16 : decode b_ps_existingFault 16 = .ok (.invokespecial 92, 3) := by decide +kernel
theorem d_ps_existingFault_19 : decode b_ps_existingFault 19 = .ok (.athrow, 1) := by decide +kernel
theorem d_ps_existingFault_20 : decode b_ps_existingFault 20 = .ok (.iconst 1, 1) := by decide +kernel
theorem d_ps_existingFault_21 : decode b_ps_existingFault 21 = .ok (.iload_n 0, 1) := by decide +kernel
theorem d_ps_existingFault_22 : decode b_ps_existingFault 22 = .ok (.ishl, 1) := by decide +kernel
theorem d_ps_existingFault_23 : decode b_ps_existingFault 23 = .ok (.ireturn, 1) := by decide +kernel
theorem d_ps_place_0 : decode b_ps_place 0 = .ok (.iconst 1, 1) := by decide +kernel
theorem d_ps_place_1 : decode b_ps_place 1 = .ok (.iload_n 0, 1) := by decide +kernel
theorem d_ps_place_2 : decode b_ps_place 2 = .ok (.bipush 8, 2) := by decide +kernel
theorem d_ps_place_4 : decode b_ps_place 4 = .ok (.imul, 1) := by decide +kernel
theorem d_ps_place_5 : decode b_ps_place 5 = .ok (.iload_n 1, 1) := by decide +kernel
theorem d_ps_place_6 : decode b_ps_place 6 = .ok (.iadd, 1) := by decide +kernel
theorem d_ps_place_7 : decode b_ps_place 7 = .ok (.ishl, 1) := by decide +kernel
theorem d_ps_place_8 : decode b_ps_place 8 = .ok (.ireturn, 1) := by decide +kernel
theorem d_ps_takeFromBehind_0 : decode b_ps_takeFromBehind 0 = .ok (.iload_n 2, 1) := by decide +kernel
theorem d_ps_takeFromBehind_1 : decode b_ps_takeFromBehind 1 = .ok (.iconst 1, 1) := by decide +kernel
theorem d_ps_takeFromBehind_2 : decode b_ps_takeFromBehind 2 = .ok (.iadd, 1) := by decide +kernel
theorem d_ps_takeFromBehind_3 : decode b_ps_takeFromBehind 3 = .ok (.istore_n 3, 1) := by decide +kernel
theorem d_ps_takeFromBehind_4 : decode b_ps_takeFromBehind 4 = .ok (.iload_n 3, 1) := by decide +kernel
theorem d_ps_takeFromBehind_5 : decode b_ps_takeFromBehind 5 = .ok (.aload_n 0, 1) := by decide +kernel
theorem d_ps_takeFromBehind_6 : decode b_ps_takeFromBehind 6 = .ok (.getfield 29, 3) := by decide +kernel
theorem d_ps_takeFromBehind_9 : decode b_ps_takeFromBehind 9 = .ok (.arraylength, 1) := by decide +kernel
theorem d_ps_takeFromBehind_10 : decode b_ps_takeFromBehind 10 = .ok (.if_icmp .ge 36, 3) := by decide +kernel
theorem d_ps_takeFromBehind_13 : decode b_ps_takeFromBehind 13 = .ok (.aload_n 0, 1) := by decide +kernel
theorem d_ps_takeFromBehind_14 : decode b_ps_takeFromBehind 14 = .ok (.iload_n 3, 1) := by decide +kernel
theorem d_ps_takeFromBehind_15 : decode b_ps_takeFromBehind 15 = .ok (.invokevirtual 65, 3) := by decide +kernel
theorem d_ps_takeFromBehind_18 : decode b_ps_takeFromBehind 18 = .ok (.astore 4, 2) := by decide +kernel
theorem d_ps_takeFromBehind_20 : decode b_ps_takeFromBehind 20 = .ok (.aload 4, 2) := by decide +kernel
theorem d_ps_takeFromBehind_22 : decode b_ps_takeFromBehind 22 = .ok (.ifnull 18, 3) := by decide +kernel
theorem d_ps_takeFromBehind_25 : decode b_ps_takeFromBehind 25 = .ok (.aload_n 1, 1) := by decide +kernel
theorem d_ps_takeFromBehind_26 : decode b_ps_takeFromBehind 26 = .ok (.aload 4, 2) := by decide +kernel
theorem d_ps_takeFromBehind_28 : decode b_ps_takeFromBehind 28 = .ok (.invokevirtual 190, 3) := by decide +kernel
theorem d_ps_takeFromBehind_31 : decode b_ps_takeFromBehind 31 = .ok (.ifCond .eq 9, 3) := by decide +kernel
theorem d_ps_takeFromBehind_34 : decode b_ps_takeFromBehind 34 = .ok (.aload_n 1, 1) := by decide +kernel
theorem d_ps_takeFromBehind_35 : decode b_ps_takeFromBehind 35 = .ok (.aload 4, 2) := by decide +kernel
theorem d_ps_takeFromBehind_37 : decode b_ps_takeFromBehind 37 = .ok (.invokevirtual 194, 3) := by decide +kernel
theorem d_ps_takeFromBehind_40 : decode b_ps_takeFromBehind 40 = .ok (.iinc 3 1, 3) := by decide +kernel
theorem d_ps_takeFromBehind_43 : decode b_ps_takeFromBehind 43 = .ok (.goto (-39), 3) := by decide +kernel
theorem d_ps_takeFromBehind_46 : decode b_ps_takeFromBehind 46 = .ok (.return_, 1) := by decide +kernel
theorem d_ps_forgetSeeds_0 : decode b_ps_forgetSeeds 0 = .ok (.iconst 0, 1) := by decide +kernel
theorem d_ps_forgetSeeds_1 : decode b_ps_forgetSeeds 1 = .ok (.istore_n 1, 1) := by decide +kernel
theorem d_ps_forgetSeeds_2 : decode b_ps_forgetSeeds 2 = .ok (.iload_n 1, 1) := by decide +kernel
theorem d_ps_forgetSeeds_3 : decode b_ps_forgetSeeds 3 = .ok (.aload_n 0, 1) := by decide +kernel
theorem d_ps_forgetSeeds_4 : decode b_ps_forgetSeeds 4 = .ok (.getfield 29, 3) := by decide +kernel
theorem d_ps_forgetSeeds_7 : decode b_ps_forgetSeeds 7 = .ok (.arraylength, 1) := by decide +kernel
theorem d_ps_forgetSeeds_8 : decode b_ps_forgetSeeds 8 = .ok (.if_icmp .ge 24, 3) := by decide +kernel
theorem d_ps_forgetSeeds_11 : decode b_ps_forgetSeeds 11 = .ok (.aload_n 0, 1) := by decide +kernel
theorem d_ps_forgetSeeds_12 : decode b_ps_forgetSeeds 12 = .ok (.iload_n 1, 1) := by decide +kernel
theorem d_ps_forgetSeeds_13 : decode b_ps_forgetSeeds 13 = .ok (.invokevirtual 65, 3) := by decide +kernel
theorem d_ps_forgetSeeds_16 : decode b_ps_forgetSeeds 16 = .ok (.astore_n 2, 1) := by decide +kernel
theorem d_ps_forgetSeeds_17 : decode b_ps_forgetSeeds 17 = .ok (.aload_n 2, 1) := by decide +kernel
theorem d_ps_forgetSeeds_18 : decode b_ps_forgetSeeds 18 = .ok (.ifnull 8, 3) := by decide +kernel
theorem d_ps_forgetSeeds_21 : decode b_ps_forgetSeeds 21 = .ok (.aload_n 2, 1) := by decide +kernel
theorem d_ps_forgetSeeds_22 : decode b_ps_forgetSeeds 22 = .ok (.iconst (-1), 1) := by decide +kernel
theorem d_ps_forgetSeeds_23 : decode b_ps_forgetSeeds 23 = .ok (.putfield 111, 3) := by decide +kernel
theorem d_ps_forgetSeeds_26 : decode b_ps_forgetSeeds 26 = .ok (.iinc 1 1, 3) := by decide +kernel
theorem d_ps_forgetSeeds_29 : decode b_ps_forgetSeeds 29 = .ok (.goto (-27), 3) := by decide +kernel
theorem d_ps_forgetSeeds_32 : decode b_ps_forgetSeeds 32 = .ok (.return_, 1) := by decide +kernel
theorem d_ps_faultsOfAllBut_0 : decode b_ps_faultsOfAllBut 0 = .ok (.iconst 0, 1) := by decide +kernel
theorem d_ps_faultsOfAllBut_1 : decode b_ps_faultsOfAllBut 1 = .ok (.istore_n 2, 1) := by decide +kernel
theorem d_ps_faultsOfAllBut_2 : decode b_ps_faultsOfAllBut 2 = .ok (.iconst 0, 1) := by decide +kernel
theorem d_ps_faultsOfAllBut_3 : decode b_ps_faultsOfAllBut 3 = .ok (.istore_n 3, 1) := by decide +kernel
theorem d_ps_faultsOfAllBut_4 : decode b_ps_faultsOfAllBut 4 = .ok (.iload_n 3, 1) := by decide +kernel
theorem d_ps_faultsOfAllBut_5 : decode b_ps_faultsOfAllBut 5 = .ok (.aload_n 0, 1) := by decide +kernel
theorem d_ps_faultsOfAllBut_6 : decode b_ps_faultsOfAllBut 6 = .ok (.getfield 29, 3) := by decide +kernel
theorem d_ps_faultsOfAllBut_9 : decode b_ps_faultsOfAllBut 9 = .ok (.arraylength, 1) := by decide +kernel
theorem d_ps_faultsOfAllBut_10 : decode b_ps_faultsOfAllBut 10 = .ok (.if_icmp .ge 34, 3) := by decide +kernel
theorem d_ps_faultsOfAllBut_13 : decode b_ps_faultsOfAllBut 13 = .ok (.aload_n 0, 1) := by decide +kernel
theorem d_ps_faultsOfAllBut_14 : decode b_ps_faultsOfAllBut 14 = .ok (.iload_n 3, 1) := by decide +kernel
theorem d_ps_faultsOfAllBut_15 : decode b_ps_faultsOfAllBut 15 = .ok (.invokevirtual 65, 3) := by decide +kernel
theorem d_ps_faultsOfAllBut_18 : decode b_ps_faultsOfAllBut 18 = .ok (.astore 4, 2) := by decide +kernel
theorem d_ps_faultsOfAllBut_20 : decode b_ps_faultsOfAllBut 20 = .ok (.aload 4, 2) := by decide +kernel
theorem d_ps_faultsOfAllBut_22 : decode b_ps_faultsOfAllBut 22 = .ok (.ifnull 16, 3) := by decide +kernel
theorem d_ps_faultsOfAllBut_25 : decode b_ps_faultsOfAllBut 25 = .ok (.iload_n 3, 1) := by decide +kernel
theorem d_ps_faultsOfAllBut_26 : decode b_ps_faultsOfAllBut 26 = .ok (.iload_n 1, 1) := by decide +kernel
theorem d_ps_faultsOfAllBut_27 : decode b_ps_faultsOfAllBut 27 = .ok (.if_icmp .eq 11, 3) := by decide +kernel
theorem d_ps_faultsOfAllBut_30 : decode b_ps_faultsOfAllBut 30 = .ok (.iload_n 2, 1) := by decide +kernel
theorem d_ps_faultsOfAllBut_31 : decode b_ps_faultsOfAllBut 31 = .ok (.aload 4, 2) := by decide +kernel
theorem d_ps_faultsOfAllBut_33 : decode b_ps_faultsOfAllBut 33 = .ok (.getfield 122, 3) := by decide +kernel
theorem d_ps_faultsOfAllBut_36 : decode b_ps_faultsOfAllBut 36 = .ok (.ior, 1) := by decide +kernel
theorem d_ps_faultsOfAllBut_37 : decode b_ps_faultsOfAllBut 37 = .ok (.istore_n 2, 1) := by decide +kernel
theorem d_ps_faultsOfAllBut_38 : decode b_ps_faultsOfAllBut 38 = .ok (.iinc 3 1, 3) := by decide +kernel
theorem d_ps_faultsOfAllBut_41 : decode b_ps_faultsOfAllBut 41 = .ok (.goto (-37), 3) := by decide +kernel
theorem d_ps_faultsOfAllBut_44 : decode b_ps_faultsOfAllBut 44 = .ok (.iload_n 2, 1) := by decide +kernel
theorem d_ps_faultsOfAllBut_45 : decode b_ps_faultsOfAllBut 45 = .ok (.ireturn, 1) := by decide +kernel
theorem d_ps_countPresent_0 : decode b_ps_countPresent 0 = .ok (.iconst 0, 1) := by decide +kernel
theorem d_ps_countPresent_1 : decode b_ps_countPresent 1 = .ok (.istore_n 1, 1) := by decide +kernel
theorem d_ps_countPresent_2 : decode b_ps_countPresent 2 = .ok (.iconst 0, 1) := by decide +kernel
theorem d_ps_countPresent_3 : decode b_ps_countPresent 3 = .ok (.istore_n 2, 1) := by decide +kernel
theorem d_ps_countPresent_4 : decode b_ps_countPresent 4 = .ok (.iload_n 2, 1) := by decide +kernel
theorem d_ps_countPresent_5 : decode b_ps_countPresent 5 = .ok (.aload_n 0, 1) := by decide +kernel
theorem d_ps_countPresent_6 : decode b_ps_countPresent 6 = .ok (.getfield 29, 3) := by decide +kernel
theorem d_ps_countPresent_9 : decode b_ps_countPresent 9 = .ok (.arraylength, 1) := by decide +kernel
theorem d_ps_countPresent_10 : decode b_ps_countPresent 10 = .ok (.if_icmp .ge 20, 3) := by decide +kernel
theorem d_ps_countPresent_13 : decode b_ps_countPresent 13 = .ok (.aload_n 0, 1) := by decide +kernel
theorem d_ps_countPresent_14 : decode b_ps_countPresent 14 = .ok (.iload_n 2, 1) := by decide +kernel
theorem d_ps_countPresent_15 : decode b_ps_countPresent 15 = .ok (.invokevirtual 65, 3) := by decide +kernel
theorem d_ps_countPresent_18 : decode b_ps_countPresent 18 = .ok (.ifnull 6, 3) := by decide +kernel
theorem d_ps_countPresent_21 : decode b_ps_countPresent 21 = .ok (.iinc 1 1, 3) := by decide +kernel
theorem d_ps_countPresent_24 : decode b_ps_countPresent 24 = .ok (.iinc 2 1, 3) := by decide +kernel
theorem d_ps_countPresent_27 : decode b_ps_countPresent 27 = .ok (.goto (-23), 3) := by decide +kernel
theorem d_ps_countPresent_30 : decode b_ps_countPresent 30 = .ok (.iload_n 1, 1) := by decide +kernel
theorem d_ps_countPresent_31 : decode b_ps_countPresent 31 = .ok (.ireturn, 1) := by decide +kernel
theorem d_ps_countSeeded_0 : decode b_ps_countSeeded 0 = .ok (.iconst 0, 1) := by decide +kernel
theorem d_ps_countSeeded_1 : decode b_ps_countSeeded 1 = .ok (.istore_n 1, 1) := by decide +kernel
theorem d_ps_countSeeded_2 : decode b_ps_countSeeded 2 = .ok (.iconst 0, 1) := by decide +kernel
theorem d_ps_countSeeded_3 : decode b_ps_countSeeded 3 = .ok (.istore_n 2, 1) := by decide +kernel
theorem d_ps_countSeeded_4 : decode b_ps_countSeeded 4 = .ok (.iload_n 2, 1) := by decide +kernel
theorem d_ps_countSeeded_5 : decode b_ps_countSeeded 5 = .ok (.aload_n 0, 1) := by decide +kernel
theorem d_ps_countSeeded_6 : decode b_ps_countSeeded 6 = .ok (.getfield 29, 3) := by decide +kernel
theorem d_ps_countSeeded_9 : decode b_ps_countSeeded 9 = .ok (.arraylength, 1) := by decide +kernel
theorem d_ps_countSeeded_10 : decode b_ps_countSeeded 10 = .ok (.if_icmp .ge 30, 3) := by decide +kernel
theorem d_ps_countSeeded_13 : decode b_ps_countSeeded 13 = .ok (.aload_n 0, 1) := by decide +kernel
theorem d_ps_countSeeded_14 : decode b_ps_countSeeded 14 = .ok (.iload_n 2, 1) := by decide +kernel
theorem d_ps_countSeeded_15 : decode b_ps_countSeeded 15 = .ok (.invokevirtual 65, 3) := by decide +kernel
theorem d_ps_countSeeded_18 : decode b_ps_countSeeded 18 = .ok (.astore_n 3, 1) := by decide +kernel
theorem d_ps_countSeeded_19 : decode b_ps_countSeeded 19 = .ok (.aload_n 3, 1) := by decide +kernel
theorem d_ps_countSeeded_20 : decode b_ps_countSeeded 20 = .ok (.ifnull 14, 3) := by decide +kernel
theorem d_ps_countSeeded_23 : decode b_ps_countSeeded 23 = .ok (.aload_n 3, 1) := by decide +kernel
theorem d_ps_countSeeded_24 : decode b_ps_countSeeded 24 = .ok (.getfield 111, 3) := by decide +kernel
theorem d_ps_countSeeded_27 : decode b_ps_countSeeded 27 = .ok (.iconst (-1), 1) := by decide +kernel
theorem d_ps_countSeeded_28 : decode b_ps_countSeeded 28 = .ok (.if_icmp .eq 6, 3) := by decide +kernel
theorem d_ps_countSeeded_31 : decode b_ps_countSeeded 31 = .ok (.iinc 1 1, 3) := by decide +kernel
theorem d_ps_countSeeded_34 : decode b_ps_countSeeded 34 = .ok (.iinc 2 1, 3) := by decide +kernel
theorem d_ps_countSeeded_37 : decode b_ps_countSeeded 37 = .ok (.goto (-33), 3) := by decide +kernel
theorem d_ps_countSeeded_40 : decode b_ps_countSeeded 40 = .ok (.iload_n 1, 1) := by decide +kernel
theorem d_ps_countSeeded_41 : decode b_ps_countSeeded 41 = .ok (.ireturn, 1) := by decide +kernel
theorem d_ps_countCared_0 : decode b_ps_countCared 0 = .ok (.iconst 0, 1) := by decide +kernel
theorem d_ps_countCared_1 : decode b_ps_countCared 1 = .ok (.istore_n 1, 1) := by decide +kernel
theorem d_ps_countCared_2 : decode b_ps_countCared 2 = .ok (.iconst 0, 1) := by decide +kernel
theorem d_ps_countCared_3 : decode b_ps_countCared 3 = .ok (.istore_n 2, 1) := by decide +kernel
theorem d_ps_countCared_4 : decode b_ps_countCared 4 = .ok (.iload_n 2, 1) := by decide +kernel
theorem d_ps_countCared_5 : decode b_ps_countCared 5 = .ok (.aload_n 0, 1) := by decide +kernel
theorem d_ps_countCared_6 : decode b_ps_countCared 6 = .ok (.getfield 29, 3) := by decide +kernel
theorem d_ps_countCared_9 : decode b_ps_countCared 9 = .ok (.arraylength, 1) := by decide +kernel
theorem d_ps_countCared_10 : decode b_ps_countCared 10 = .ok (.if_icmp .ge 29, 3) := by decide +kernel
theorem d_ps_countCared_13 : decode b_ps_countCared 13 = .ok (.aload_n 0, 1) := by decide +kernel
theorem d_ps_countCared_14 : decode b_ps_countCared 14 = .ok (.iload_n 2, 1) := by decide +kernel
theorem d_ps_countCared_15 : decode b_ps_countCared 15 = .ok (.invokevirtual 65, 3) := by decide +kernel
theorem d_ps_countCared_18 : decode b_ps_countCared 18 = .ok (.astore_n 3, 1) := by decide +kernel
theorem d_ps_countCared_19 : decode b_ps_countCared 19 = .ok (.aload_n 3, 1) := by decide +kernel
theorem d_ps_countCared_20 : decode b_ps_countCared 20 = .ok (.ifnull 13, 3) := by decide +kernel
theorem d_ps_countCared_23 : decode b_ps_countCared 23 = .ok (.iload_n 1, 1) := by decide +kernel
theorem d_ps_countCared_24 : decode b_ps_countCared 24 = .ok (.aload_n 3, 1) := by decide +kernel
theorem d_ps_countCared_25 : decode b_ps_countCared 25 = .ok (.getfield 102, 3) := by decide +kernel
theorem d_ps_countCared_28 : decode b_ps_countCared 28 = .ok (.invokestatic 177, 3) := by decide +kernel
theorem d_ps_countCared_31 : decode b_ps_countCared 31 = .ok (.iadd, 1) := by decide +kernel
theorem d_ps_countCared_32 : decode b_ps_countCared 32 = .ok (.istore_n 1, 1) := by decide +kernel
theorem d_ps_countCared_33 : decode b_ps_countCared 33 = .ok (.iinc 2 1, 3) := by decide +kernel
theorem d_ps_countCared_36 : decode b_ps_countCared 36 = .ok (.goto (-32), 3) := by decide +kernel
theorem d_ps_countCared_39 : decode b_ps_countCared 39 = .ok (.iload_n 1, 1) := by decide +kernel
theorem d_ps_countCared_40 : decode b_ps_countCared 40 = .ok (.ireturn, 1) := by decide +kernel
theorem d_ps_bitsOf_0 : decode b_ps_bitsOf 0 = .ok (.aload_n 1, 1) := by decide +kernel
theorem d_ps_bitsOf_1 : decode b_ps_bitsOf 1 = .ok (.getfield 111, 3) := by decide +kernel
theorem d_ps_bitsOf_4 : decode b_ps_bitsOf 4 = .ok (.iconst (-1), 1) := by decide +kernel
theorem d_ps_bitsOf_5 : decode b_ps_bitsOf 5 = .ok (.if_icmp .eq 15, 3) := by decide +kernel
theorem d_ps_bitsOf_8 : decode b_ps_bitsOf 8 = .ok (.aload_n 0, 1) := by decide +kernel
theorem d_ps_bitsOf_9 : decode b_ps_bitsOf 9 = .ok (.getfield 23, 3) := by decide +kernel
theorem d_ps_bitsOf_12 : decode b_ps_bitsOf 12 = .ok (.aload_n 1, 1) := by decide +kernel
theorem d_ps_bitsOf_13 : decode b_ps_bitsOf 13 = .ok (.getfield 111, 3) := by decide +kernel
theorem d_ps_bitsOf_16 : decode b_ps_bitsOf 16 = .ok (.invokevirtual 198, 3) := by decide +kernel
theorem d_ps_bitsOf_19 : decode b_ps_bitsOf 19 = .ok (.ireturn, 1) := by decide +kernel
theorem d_ps_bitsOf_20 : decode b_ps_bitsOf 20 = .ok (.aload_n 0, 1) := by decide +kernel
theorem d_ps_bitsOf_21 : decode b_ps_bitsOf 21 = .ok (.getfield 37, 3) := by decide +kernel
theorem d_ps_bitsOf_24 : decode b_ps_bitsOf 24 = .ok (.iconst 1, 1) := by decide +kernel
theorem d_ps_bitsOf_25 : decode b_ps_bitsOf 25 = .ok (.if_icmp .ne 15, 3) := by decide +kernel
theorem d_ps_bitsOf_28 : decode b_ps_bitsOf 28 = .ok (.aload_n 1, 1) := by decide +kernel
theorem d_ps_bitsOf_29 : decode b_ps_bitsOf 29 = .ok (.getfield 105, 3) := by decide +kernel
theorem d_ps_bitsOf_32 : decode b_ps_bitsOf 32 = .ok (.aload_n 1, 1) := by decide +kernel
theorem d_ps_bitsOf_33 : decode b_ps_bitsOf 33 = .ok (.getfield 102, 3) := by decide +kernel
theorem d_ps_bitsOf_36 : decode b_ps_bitsOf 36 = .ok (.iconst (-1), 1) := by decide +kernel
theorem d_ps_bitsOf_37 : decode b_ps_bitsOf 37 = .ok (.ixor, 1) := by decide +kernel
theorem d_ps_bitsOf_38 : decode b_ps_bitsOf 38 = .ok (.ior, 1) := by decide +kernel
theorem d_ps_bitsOf_39 : decode b_ps_bitsOf 39 = .ok (.ireturn, 1) := by decide +kernel
theorem d_ps_bitsOf_40 : decode b_ps_bitsOf 40 = .ok (.aload_n 0, 1) := by decide +kernel
theorem d_ps_bitsOf_41 : decode b_ps_bitsOf 41 = .ok (.getfield 37, 3) := by decide +kernel
theorem d_ps_bitsOf_44 : decode b_ps_bitsOf 44 = .ok (.iconst 2, 1) := by decide +kernel
theorem d_ps_bitsOf_45 : decode b_ps_bitsOf 45 = .ok (.if_icmp .ne 11, 3) := by decide +kernel
theorem d_ps_bitsOf_48 : decode b_ps_bitsOf 48 = .ok (.aload_n 0, 1) := by decide +kernel
theorem d_ps_bitsOf_49 : decode b_ps_bitsOf 49 = .ok (.aload_n 1, 1) := by decide +kernel
theorem d_ps_bitsOf_50 : decode b_ps_bitsOf 50 = .ok (.invokevirtual 201, 3) := by decide +kernel
theorem d_ps_bitsOf_53 : decode b_ps_bitsOf 53 = .ok (.goto 7, 3) := by decide +kernel
theorem d_ps_bitsOf_56 : decode b_ps_bitsOf 56 = .ok (.aload_n 1, 1) := by decide +kernel
theorem d_ps_bitsOf_57 : decode b_ps_bitsOf 57 = .ok (.getfield 105, 3) := by decide +kernel
theorem d_ps_bitsOf_60 : decode b_ps_bitsOf 60 = .ok (.ireturn, 1) := by decide +kernel
theorem d_ps_filledFromNearest_0 : decode b_ps_filledFromNearest 0 = .ok (.iconst 0, 1) := by decide +kernel
theorem d_ps_filledFromNearest_1 : decode b_ps_filledFromNearest 1 = .ok (.istore_n 2, 1) := by decide +kernel
theorem d_ps_filledFromNearest_2 : decode b_ps_filledFromNearest 2 = .ok (.iconst 0, 1) := by decide +kernel
theorem d_ps_filledFromNearest_3 : decode b_ps_filledFromNearest 3 = .ok (.istore_n 3, 1) := by decide +kernel
theorem d_ps_filledFromNearest_4 : decode b_ps_filledFromNearest 4 = .ok (.iload_n 3, 1) := by decide +kernel
theorem d_ps_filledFromNearest_5 : decode b_ps_filledFromNearest 5 = .ok (.aload_n 0, 1) := by decide +kernel
theorem d_ps_filledFromNearest_6 : decode b_ps_filledFromNearest 6 = .ok (.getfield 12, 3) := by decide +kernel
theorem d_ps_filledFromNearest_9 : decode b_ps_filledFromNearest 9 = .ok (.getfield 162, 3) := by decide +kernel
theorem d_ps_filledFromNearest_12 : decode b_ps_filledFromNearest 12 = .ok (.if_icmp .ge 51, 3) := by decide +kernel
theorem d_ps_filledFromNearest_15 : decode b_ps_filledFromNearest 15 = .ok (.iconst 0, 1) := by decide +kernel
theorem d_ps_filledFromNearest_16 : decode b_ps_filledFromNearest 16 = .ok (.istore 4, 2) := by decide +kernel
theorem d_ps_filledFromNearest_18 : decode b_ps_filledFromNearest 18 = .ok (.iload 4, 2) := by decide +kernel
theorem d_ps_filledFromNearest_20 : decode b_ps_filledFromNearest 20 = .ok (.aload_n 0, 1) := by decide +kernel
theorem d_ps_filledFromNearest_21 : decode b_ps_filledFromNearest 21 = .ok (.getfield 12, 3) := by decide +kernel
theorem d_ps_filledFromNearest_24 : decode b_ps_filledFromNearest 24 = .ok (.getfield 165, 3) := by decide +kernel
theorem d_ps_filledFromNearest_27 : decode b_ps_filledFromNearest 27 = .ok (.if_icmp .ge 30, 3) := by decide +kernel
theorem d_ps_filledFromNearest_30 : decode b_ps_filledFromNearest 30 = .ok (.aload_n 0, 1) := by decide +kernel
theorem d_ps_filledFromNearest_31 : decode b_ps_filledFromNearest 31 = .ok (.aload_n 1, 1) := by decide +kernel
theorem d_ps_filledFromNearest_32 : decode b_ps_filledFromNearest 32 = .ok (.iload_n 3, 1) := by decide +kernel
theorem d_ps_filledFromNearest_33 : decode b_ps_filledFromNearest 33 = .ok (.iload 4, 2) := by decide +kernel
theorem d_ps_filledFromNearest_35 : decode b_ps_filledFromNearest 35 = .ok (.invokevirtual 204, 3) := by decide +kernel
theorem d_ps_filledFromNearest_38 : decode b_ps_filledFromNearest 38 = .ok (.iconst 1, 1) := by decide +kernel
theorem d_ps_filledFromNearest_39 : decode b_ps_filledFromNearest 39 = .ok (.if_icmp .ne 12, 3) := by decide +kernel
theorem d_ps_filledFromNearest_42 : decode b_ps_filledFromNearest 42 = .ok (.iload_n 2, 1) := by decide +kernel
theorem d_ps_filledFromNearest_43 : decode b_ps_filledFromNearest 43 = .ok (.iload_n 3, 1) := by decide +kernel
theorem d_ps_filledFromNearest_44 : decode b_ps_filledFromNearest 44 = .ok (.iload 4, 2) := by decide +kernel
theorem d_ps_filledFromNearest_46 : decode b_ps_filledFromNearest 46 = .ok (.invokestatic 168, 3) := by decide +kernel
theorem d_ps_filledFromNearest_49 : decode b_ps_filledFromNearest 49 = .ok (.ior, 1) := by decide +kernel
theorem d_ps_filledFromNearest_50 : decode b_ps_filledFromNearest 50 = .ok (.istore_n 2, 1) := by decide +kernel
theorem d_ps_filledFromNearest_51 : decode b_ps_filledFromNearest 51 = .ok (.iinc 4 1, 3) := by decide +kernel
theorem d_ps_filledFromNearest_54 : decode b_ps_filledFromNearest 54 = .ok (.goto (-36), 3) := by decide +kernel
theorem d_ps_filledFromNearest_57 : decode b_ps_filledFromNearest 57 = .ok (.iinc 3 1, 3) := by decide +kernel
theorem d_ps_filledFromNearest_60 : decode b_ps_filledFromNearest 60 = .ok (.goto (-56), 3) := by decide +kernel
theorem d_ps_filledFromNearest_63 : decode b_ps_filledFromNearest 63 = .ok (.iload_n 2, 1) := by decide +kernel
theorem d_ps_filledFromNearest_64 : decode b_ps_filledFromNearest 64 = .ok (.ireturn, 1) := by decide +kernel
theorem d_ps_nearestCare_0 : decode b_ps_nearestCare 0 = .ok (.iload_n 3, 1) := by decide +kernel
theorem d_ps_nearestCare_1 : decode b_ps_nearestCare 1 = .ok (.istore 4, 2) := by decide +kernel
theorem d_ps_nearestCare_3 : decode b_ps_nearestCare 3 = .ok (.iload 4, 2) := by decide +kernel
theorem d_ps_nearestCare_5 : decode b_ps_nearestCare 5 = .ok (.ifCond .lt 30, 3) := by decide +kernel
theorem d_ps_nearestCare_8 : decode b_ps_nearestCare 8 = .ok (.aload_n 1, 1) := by decide +kernel
theorem d_ps_nearestCare_9 : decode b_ps_nearestCare 9 = .ok (.iload_n 2, 1) := by decide +kernel
theorem d_ps_nearestCare_10 : decode b_ps_nearestCare 10 = .ok (.iload 4, 2) := by decide +kernel
theorem d_ps_nearestCare_12 : decode b_ps_nearestCare 12 = .ok (.invokestatic 168, 3) := by decide +kernel
theorem d_ps_nearestCare_15 : decode b_ps_nearestCare 15 = .ok (.invokevirtual 208, 3) := by decide +kernel
theorem d_ps_nearestCare_18 : decode b_ps_nearestCare 18 = .ok (.istore 5, 2) := by decide +kernel
theorem d_ps_nearestCare_20 : decode b_ps_nearestCare 20 = .ok (.iload 5, 2) := by decide +kernel
theorem d_ps_nearestCare_22 : decode b_ps_nearestCare 22 = .ok (.iconst (-1), 1) := by decide +kernel
theorem d_ps_nearestCare_23 : decode b_ps_nearestCare 23 = .ok (.if_icmp .eq 6, 3) := by decide +kernel
theorem d_ps_nearestCare_26 : decode b_ps_nearestCare 26 = .ok (.iload 5, 2) := by decide +kernel
theorem d_ps_nearestCare_28 : decode b_ps_nearestCare 28 = .ok (.ireturn, 1) := by decide +kernel
theorem d_ps_nearestCare_29 : decode b_ps_nearestCare 29 = .ok (.iinc 4 (-1), 3) := by decide +kernel
theorem d_ps_nearestCare_32 : decode b_ps_nearestCare 32 = .ok (.goto (-29), 3) := by decide +kernel
theorem d_ps_nearestCare_35 : decode b_ps_nearestCare 35 = .ok (.iload_n 3, 1) := by decide +kernel
theorem d_ps_nearestCare_36 : decode b_ps_nearestCare 36 = .ok (.iconst 1, 1) := by decide +kernel
theorem d_ps_nearestCare_37 : decode b_ps_nearestCare 37 = .ok (.iadd, 1) := by decide +kernel
theorem d_ps_nearestCare_38 : decode b_ps_nearestCare 38 = .ok (.istore 4, 2) := by decide +kernel
theorem d_ps_nearestCare_40 : decode b_ps_nearestCare 40 = .ok (.iload 4, 2) := by decide +kernel
theorem d_ps_nearestCare_42 : decode b_ps_nearestCare 42 = .ok (.aload_n 0, 1) := by decide +kernel
theorem d_ps_nearestCare_43 : decode b_ps_nearestCare 43 = .ok (.getfield 12, 3) := by decide +kernel
theorem d_ps_nearestCare_46 : decode b_ps_nearestCare 46 = .ok (.getfield 165, 3) := by decide +kernel
theorem d_ps_nearestCare_49 : decode b_ps_nearestCare 49 = .ok (.if_icmp .ge 30, 3) := by decide +kernel
theorem d_ps_nearestCare_52 : decode b_ps_nearestCare 52 = .ok (.aload_n 1, 1) := by decide +kernel
theorem d_ps_nearestCare_53 : decode b_ps_nearestCare 53 = .ok (.iload_n 2, 1) := by decide +kernel
theorem d_ps_nearestCare_54 : decode b_ps_nearestCare 54 = .ok (.iload 4, 2) := by decide +kernel
theorem d_ps_nearestCare_56 : decode b_ps_nearestCare 56 = .ok (.invokestatic 168, 3) := by decide +kernel
theorem d_ps_nearestCare_59 : decode b_ps_nearestCare 59 = .ok (.invokevirtual 208, 3) := by decide +kernel
theorem d_ps_nearestCare_62 : decode b_ps_nearestCare 62 = .ok (.istore 5, 2) := by decide +kernel
theorem d_ps_nearestCare_64 : decode b_ps_nearestCare 64 = .ok (.iload 5, 2) := by decide +kernel
theorem d_ps_nearestCare_66 : decode b_ps_nearestCare 66 = .ok (.iconst (-1), 1) := by decide +kernel
theorem d_ps_nearestCare_67 : decode b_ps_nearestCare 67 = .ok (.if_icmp .eq 6, 3) := by decide +kernel
theorem d_ps_nearestCare_70 : decode b_ps_nearestCare 70 = .ok (.iload 5, 2) := by decide +kernel
theorem d_ps_nearestCare_72 : decode b_ps_nearestCare 72 = .ok (.ireturn, 1) := by decide +kernel
theorem d_ps_nearestCare_73 : decode b_ps_nearestCare 73 = .ok (.iinc 4 1, 3) := by decide +kernel
theorem d_ps_nearestCare_76 : decode b_ps_nearestCare 76 = .ok (.goto (-36), 3) := by decide +kernel
theorem d_ps_nearestCare_79 : decode b_ps_nearestCare 79 = .ok (.iconst 0, 1) := by decide +kernel
theorem d_ps_nearestCare_80 : decode b_ps_nearestCare 80 = .ok (.ireturn, 1) := by decide +kernel
theorem d_ps_greatestDivisor_0 : decode b_ps_greatestDivisor 0 = .ok (.lload_n 0, 1) := by decide +kernel
theorem d_ps_greatestDivisor_1 : decode b_ps_greatestDivisor 1 = .ok (.lstore 4, 2) := by decide +kernel
theorem d_ps_greatestDivisor_3 : decode b_ps_greatestDivisor 3 = .ok (.lload_n 2, 1) := by decide +kernel
theorem d_ps_greatestDivisor_4 : decode b_ps_greatestDivisor 4 = .ok (.lstore 6, 2) := by decide +kernel
theorem d_ps_greatestDivisor_6 : decode b_ps_greatestDivisor 6 = .ok (.iconst 0, 1) := by decide +kernel
theorem d_ps_greatestDivisor_7 : decode b_ps_greatestDivisor 7 = .ok (.istore 8, 2) := by decide +kernel
theorem d_ps_greatestDivisor_9 : decode b_ps_greatestDivisor 9 = .ok (.iload 8, 2) := by decide +kernel
theorem d_ps_greatestDivisor_11 : decode b_ps_greatestDivisor 11 = .ok (.sipush 128, 3) := by decide +kernel
theorem d_ps_greatestDivisor_14 : decode b_ps_greatestDivisor 14 = .ok (.if_icmp .ge 31, 3) := by decide +kernel
theorem d_ps_greatestDivisor_17 : decode b_ps_greatestDivisor 17 = .ok (.lload 6, 2) := by decide +kernel
theorem d_ps_greatestDivisor_19 : decode b_ps_greatestDivisor 19 = .ok (.lconst 0, 1) := by decide +kernel
theorem d_ps_greatestDivisor_20 : decode b_ps_greatestDivisor 20 = .ok (.lcmp, 1) := by decide +kernel
theorem d_ps_greatestDivisor_21 : decode b_ps_greatestDivisor 21 = .ok (.ifCond .eq 24, 3) := by decide +kernel
theorem d_ps_greatestDivisor_24 : decode b_ps_greatestDivisor 24 = .ok (.lload 4, 2) := by decide +kernel
theorem d_ps_greatestDivisor_26 : decode b_ps_greatestDivisor 26 = .ok (.lload 6, 2) := by decide +kernel
theorem d_ps_greatestDivisor_28 : decode b_ps_greatestDivisor 28 = .ok (.lrem, 1) := by decide +kernel
theorem d_ps_greatestDivisor_29 : decode b_ps_greatestDivisor 29 = .ok (.lstore 9, 2) := by decide +kernel
theorem d_ps_greatestDivisor_31 : decode b_ps_greatestDivisor 31 = .ok (.lload 6, 2) := by decide +kernel
theorem d_ps_greatestDivisor_33 : decode b_ps_greatestDivisor 33 = .ok (.lstore 4, 2) := by decide +kernel
theorem d_ps_greatestDivisor_35 : decode b_ps_greatestDivisor 35 = .ok (.lload 9, 2) := by decide +kernel
theorem d_ps_greatestDivisor_37 : decode b_ps_greatestDivisor 37 = .ok (.lstore 6, 2) := by decide +kernel
theorem d_ps_greatestDivisor_39 : decode b_ps_greatestDivisor 39 = .ok (.iinc 8 1, 3) := by decide +kernel
theorem d_ps_greatestDivisor_42 : decode b_ps_greatestDivisor 42 = .ok (.goto (-33), 3) := by decide +kernel
theorem d_ps_greatestDivisor_45 : decode b_ps_greatestDivisor 45 = .ok (.lconst 1, 1) := by decide +kernel
theorem d_ps_greatestDivisor_46 : decode b_ps_greatestDivisor 46 = .ok (.lload 4, 2) := by decide +kernel
theorem d_ps_greatestDivisor_48 : decode b_ps_greatestDivisor 48 = .ok (.invokestatic 211, 3) := by decide +kernel
theorem d_ps_greatestDivisor_51 : decode b_ps_greatestDivisor 51 = .ok (.lreturn, 1) := by decide +kernel
theorem d_mo_init_0 : decode b_mo_init 0 = .ok (.aload_n 0, 1) := by decide +kernel
theorem d_mo_init_1 : decode b_mo_init 1 = .ok (.invokespecial 1, 3) := by decide +kernel
theorem d_mo_init_4 : decode b_mo_init 4 = .ok (.aload_n 0, 1) := by decide +kernel
theorem d_mo_init_5 : decode b_mo_init 5 = .ok (.sipush 768, 3) := by decide +kernel
theorem d_mo_init_8 : decode b_mo_init 8 = .ok (.newarray .int, 2) := by decide +kernel
theorem d_mo_init_10 : decode b_mo_init 10 = .ok (.putfield 7, 3) := by decide +kernel
theorem d_mo_init_13 : decode b_mo_init 13 = .ok (.aload_n 0, 1) := by decide +kernel
theorem d_mo_init_14 : decode b_mo_init 14 = .ok (.sipush 768, 3) := by decide +kernel
theorem d_mo_init_17 : decode b_mo_init 17 = .ok (.newarray .boolean, 2) := by decide +kernel
theorem d_mo_init_19 : decode b_mo_init 19 = .ok (.putfield 13, 3) := by decide +kernel
theorem d_mo_init_22 : decode b_mo_init 22 = .ok (.aload_n 0, 1) := by decide +kernel
theorem d_mo_init_23 : decode b_mo_init 23 = .ok (.sipush 744, 3) := by decide +kernel
theorem d_mo_init_26 : decode b_mo_init 26 = .ok (.newarray .boolean, 2) := by decide +kernel
theorem d_mo_init_28 : decode b_mo_init 28 = .ok (.putfield 17, 3) := by decide +kernel
theorem d_mo_init_31 : decode b_mo_init 31 = .ok (.aload_n 0, 1) := by decide +kernel
theorem d_mo_init_32 : decode b_mo_init 32 = .ok (.bipush 24, 2) := by decide +kernel
theorem d_mo_init_34 : decode b_mo_init 34 = .ok (.newarray .boolean, 2) := by decide +kernel
theorem d_mo_init_36 : decode b_mo_init 36 = .ok (.putfield 20, 3) := by decide +kernel
theorem d_mo_init_39 : decode b_mo_init 39 = .ok (.aload_n 0, 1) := by decide +kernel
theorem d_mo_init_40 : decode b_mo_init 40 = .ok (.bipush 24, 2) := by decide +kernel
theorem d_mo_init_42 : decode b_mo_init 42 = .ok (.newarray .int, 2) := by decide +kernel
theorem d_mo_init_44 : decode b_mo_init 44 = .ok (.putfield 23, 3) := by decide +kernel
theorem d_mo_init_47 : decode b_mo_init 47 = .ok (.aload_n 0, 1) := by decide +kernel
theorem d_mo_init_48 : decode b_mo_init 48 = .ok (.bipush 16, 2) := by decide +kernel
theorem d_mo_init_50 : decode b_mo_init 50 = .ok (.newarray .boolean, 2) := by decide +kernel
theorem d_mo_init_52 : decode b_mo_init 52 = .ok (.putfield 26, 3) := by decide +kernel
theorem d_mo_init_55 : decode b_mo_init 55 = .ok (.aload_n 0, 1) := by decide +kernel
theorem d_mo_init_56 : decode b_mo_init 56 = .ok (.bipush 16, 2) := by decide +kernel
theorem d_mo_init_58 : decode b_mo_init 58 = .ok (.newarray .int, 2) := by decide +kernel
theorem d_mo_init_60 : decode b_mo_init 60 = .ok (.putfield 29, 3) := by decide +kernel
theorem d_mo_init_63 : decode b_mo_init 63 = .ok (.aload_n 0, 1) := by decide +kernel
theorem d_mo_init_64 : decode b_mo_init 64 = .ok (.iload_n 1, 1) := by decide +kernel
theorem d_mo_init_65 : decode b_mo_init 65 = .ok (.iconst 1, 1) := by decide +kernel
theorem d_mo_init_66 : decode b_mo_init 66 = .ok (.if_icmp .ge 7, 3) := by decide +kernel
theorem d_mo_init_69 : decode b_mo_init 69 = .ok (.iconst 1, 1) := by decide +kernel
theorem d_mo_init_70 : decode b_mo_init 70 = .ok (.goto 13, 3) := by decide +kernel
theorem d_mo_init_73 : decode b_mo_init 73 = .ok (.iload_n 1, 1) := by decide +kernel
theorem d_mo_init_74 : decode b_mo_init 74 = .ok (.iconst 4, 1) := by decide +kernel
theorem d_mo_init_75 : decode b_mo_init 75 = .ok (.if_icmp .le 7, 3) := by decide +kernel
theorem d_mo_init_78 : decode b_mo_init 78 = .ok (.iconst 4, 1) := by decide +kernel
theorem d_mo_init_79 : decode b_mo_init 79 = .ok (.goto 4, 3) := by decide +kernel
theorem d_mo_init_82 : decode b_mo_init 82 = .ok (.iload_n 1, 1) := by decide +kernel
theorem d_mo_init_83 : decode b_mo_init 83 = .ok (.putfield 32, 3) := by decide +kernel
theorem d_mo_init_86 : decode b_mo_init 86 = .ok (.aload_n 0, 1) := by decide +kernel
theorem d_mo_init_87 : decode b_mo_init 87 = .ok (.iload_n 2, 1) := by decide +kernel
theorem d_mo_init_88 : decode b_mo_init 88 = .ok (.iconst 1, 1) := by decide +kernel
theorem d_mo_init_89 : decode b_mo_init 89 = .ok (.if_icmp .ge 7, 3) := by decide +kernel
theorem d_mo_init_92 : decode b_mo_init 92 = .ok (.iconst 1, 1) := by decide +kernel
theorem d_mo_init_93 : decode b_mo_init 93 = .ok (.goto 15, 3) := by decide +kernel
theorem d_mo_init_96 : decode b_mo_init 96 = .ok (.iload_n 2, 1) := by decide +kernel
theorem d_mo_init_97 : decode b_mo_init 97 = .ok (.bipush 8, 2) := by decide +kernel
theorem d_mo_init_99 : decode b_mo_init 99 = .ok (.if_icmp .le 8, 3) := by decide +kernel
theorem d_mo_init_102 : decode b_mo_init 102 = .ok (.bipush 8, 2) := by decide +kernel
theorem d_mo_init_104 : decode b_mo_init 104 = .ok (.goto 4, 3) := by decide +kernel
theorem d_mo_init_107 : decode b_mo_init 107 = .ok (.iload_n 2, 1) := by decide +kernel
theorem d_mo_init_108 : decode b_mo_init 108 = .ok (.putfield 36, 3) := by decide +kernel
theorem d_mo_init_111 : decode b_mo_init 111 = .ok (.aload_n 0, 1) := by decide +kernel
theorem d_mo_init_112 : decode b_mo_init 112 = .ok (.bipush 8, 2) := by decide +kernel
theorem d_mo_init_114 : decode b_mo_init 114 = .ok (.putfield 39, 3) := by decide +kernel
theorem d_mo_init_117 : decode b_mo_init 117 = .ok (.aload_n 0, 1) := by decide +kernel
theorem d_mo_init_118 : decode b_mo_init 118 = .ok (.getfield 26, 3) := by decide +kernel
theorem d_mo_init_121 : decode b_mo_init 121 = .ok (.bipush 7, 2) := by decide +kernel
theorem d_mo_init_123 : decode b_mo_init 123 = .ok (.iconst 1, 1) := by decide +kernel
theorem d_mo_init_124 : decode b_mo_init 124 = .ok (.bastore, 1) := by decide +kernel
theorem d_mo_init_125 : decode b_mo_init 125 = .ok (.return_, 1) := by decide +kernel
theorem d_mo_thrown_0 : decode b_mo_thrown 0 = .ok (.aload_n 0, 1) := by decide +kernel
theorem d_mo_thrown_1 : decode b_mo_thrown 1 = .ok (.getfield 42, 3) := by decide +kernel
theorem d_mo_thrown_4 : decode b_mo_thrown 4 = .ok (.ireturn, 1) := by decide +kernel
theorem d_mo_is_0 : decode b_mo_is 0 = .ok (.iload_n 1, 1) := by decide +kernel
theorem d_mo_is_1 : decode b_mo_is 1 = .ok (.ifCond .lt 24, 3) := by decide +kernel
theorem d_mo_is_4 : decode b_mo_is 4 = .ok (.iload_n 1, 1) := by decide +kernel
theorem d_mo_is_5 : decode b_mo_is 5 = .ok (.aload_n 0, 1) := by decide +kernel
theorem d_mo_is_6 : decode b_mo_is 6 = .ok (.getfield 45, 3) := by decide +kernel
theorem d_mo_is_9 : decode b_mo_is 9 = .ok (.if_icmp .ge 16, 3) := by decide +kernel
theorem d_mo_is_12 : decode b_mo_is 12 = .ok (.aload_n 0, 1) := by decide +kernel
theorem d_mo_is_13 : decode b_mo_is 13 = .ok (.getfield 20, 3) := by decide +kernel
theorem d_mo_is_16 : decode b_mo_is 16 = .ok (.iload_n 1, 1) := by decide +kernel
theorem d_mo_is_17 : decode b_mo_is 17 = .ok (.baload, 1) := by decide +kernel
theorem d_mo_is_18 : decode b_mo_is 18 = .ok (.ifCond .ne 7, 3) := by decide +kernel
theorem d_mo_is_21 : decode b_mo_is 21 = .ok (.iconst 1, 1) := by decide +kernel
theorem d_mo_is_22 : decode b_mo_is 22 = .ok (.goto 4, 3) := by decide +kernel
theorem d_mo_is_25 : decode b_mo_is 25 = .ok (.iconst 0, 1) := by decide +kernel
theorem d_mo_is_26 : decode b_mo_is 26 = .ok (.ireturn, 1) := by decide +kernel
end
section
theorem d_mo_isCell_0 : decode b_mo_isCell 0 = .ok (.iload_n 1, 1) := by decide +kernel
theorem d_mo_isCell_1 : decode b_mo_isCell 1 = .ok (.ifCond .lt 27, 3) := by decide +kernel
theorem d_mo_isCell_4 : decode b_mo_isCell 4 = .ok (.iload_n 1, 1) := by decide +kernel
theorem d_mo_isCell_5 : decode b_mo_isCell 5 = .ok (.aload_n 0, 1) := by decide +kernel
theorem d_mo_isCell_6 : decode b_mo_isCell 6 = .ok (.getfield 32, 3) := by decide +kernel
theorem d_mo_isCell_9 : decode b_mo_isCell 9 = .ok (.if_icmp .ge 19, 3) := by decide +kernel
theorem d_mo_isCell_12 : decode b_mo_isCell 12 = .ok (.iload_n 2, 1) := by decide +kernel
theorem d_mo_isCell_13 : decode b_mo_isCell 13 = .ok (.ifCond .lt 15, 3) := by decide +kernel
theorem d_mo_isCell_16 : decode b_mo_isCell 16 = .ok (.iload_n 2, 1) := by decide +kernel
theorem d_mo_isCell_17 : decode b_mo_isCell 17 = .ok (.aload_n 0, 1) := by decide +kernel
theorem d_mo_isCell_18 : decode b_mo_isCell 18 = .ok (.getfield 36, 3) := by decide +kernel
theorem d_mo_isCell_21 : decode b_mo_isCell 21 = .ok (.if_icmp .ge 7, 3) := by decide +kernel
theorem d_mo_isCell_24 : decode b_mo_isCell 24 = .ok (.iconst 1, 1) := by decide +kernel
theorem d_mo_isCell_25 : decode b_mo_isCell 25 = .ok (.goto 4, 3) := by decide +kernel
theorem d_mo_isCell_28 : decode b_mo_isCell 28 = .ok (.iconst 0, 1) := by decide +kernel
theorem d_mo_isCell_29 : decode b_mo_isCell 29 = .ok (.ireturn, 1) := by decide +kernel
theorem d_mo_place_0 : decode b_mo_place 0 = .ok (.bipush 32, 2) := by decide +kernel
theorem d_mo_place_2 : decode b_mo_place 2 = .ok (.iload_n 1, 1) := by decide +kernel
theorem d_mo_place_3 : decode b_mo_place 3 = .ok (.imul, 1) := by decide +kernel
theorem d_mo_place_4 : decode b_mo_place 4 = .ok (.bipush 8, 2) := by decide +kernel
theorem d_mo_place_6 : decode b_mo_place 6 = .ok (.iload_n 2, 1) := by decide +kernel
theorem d_mo_place_7 : decode b_mo_place 7 = .ok (.imul, 1) := by decide +kernel
theorem d_mo_place_8 : decode b_mo_place 8 = .ok (.iadd, 1) := by decide +kernel
theorem d_mo_place_9 : decode b_mo_place 9 = .ok (.iload_n 3, 1) := by decide +kernel
theorem d_mo_place_10 : decode b_mo_place 10 = .ok (.iadd, 1) := by decide +kernel
theorem d_mo_place_11 : decode b_mo_place 11 = .ok (.ireturn, 1) := by decide +kernel
theorem d_mo_pattern_0 : decode b_mo_pattern 0 = .ok (.aload_n 0, 1) := by decide +kernel
theorem d_mo_pattern_1 : decode b_mo_pattern 1 = .ok (.aload_n 0, 1) := by decide +kernel
theorem d_mo_pattern_2 : decode b_mo_pattern 2 = .ok (.getfield 45, 3) := by decide +kernel
theorem d_mo_pattern_5 : decode b_mo_pattern 5 = .ok (.bipush 24, 2) := by decide +kernel
theorem d_mo_pattern_7 : decode b_mo_pattern 7 = .ok (.if_icmp .ne 7, 3) := by decide +kernel
theorem d_mo_pattern_10 : decode b_mo_pattern 10 = .ok (.iconst 1, 1) := by decide +kernel
theorem d_mo_pattern_11 : decode b_mo_pattern 11 = .ok (.goto 4, 3) := by decide +kernel
theorem d_mo_pattern_14 : decode b_mo_pattern 14 = .ok (.iconst 0, 1) := by decide +kernel
theorem d_mo_pattern_15 : decode b_mo_pattern 15 = .ok (.putfield 42, 3) := by decide +kernel
theorem d_mo_pattern_18 : decode b_mo_pattern 18 = .ok (.aload_n 0, 1) := by decide +kernel
theorem d_mo_pattern_19 : decode b_mo_pattern 19 = .ok (.getfield 42, 3) := by decide +kernel
theorem d_mo_pattern_22 : decode b_mo_pattern 22 = .ok (.ifCond .le 5, 3) := by decide +kernel
theorem d_mo_pattern_25 : decode b_mo_pattern 25 = .ok (.iconst 0, 1) := by decide +kernel
theorem d_mo_pattern_26 : decode b_mo_pattern 26 = .ok (.ireturn, 1) := by decide +kernel
theorem d_mo_pattern_27 : decode b_mo_pattern 27 = .ok (.iconst 0, 1) := by decide +kernel
theorem d_mo_pattern_28 : decode b_mo_pattern 28 = .ok (.istore_n 1, 1) := by decide +kernel
theorem d_mo_pattern_29 : decode b_mo_pattern 29 = .ok (.iload_n 1, 1) := by decide +kernel
theorem d_mo_pattern_30 : decode b_mo_pattern 30 = .ok (.bipush 32, 2) := by decide +kernel
theorem d_mo_pattern_32 : decode b_mo_pattern 32 = .ok (.if_icmp .ge 24, 3) := by decide +kernel
theorem d_mo_pattern_35 : decode b_mo_pattern 35 = .ok (.aload_n 0, 1) := by decide +kernel
theorem d_mo_pattern_36 : decode b_mo_pattern 36 = .ok (.getfield 7, 3) := by decide +kernel
theorem d_mo_pattern_39 : decode b_mo_pattern 39 = .ok (.bipush 32, 2) := by decide +kernel
theorem d_mo_pattern_41 : decode b_mo_pattern 41 = .ok (.aload_n 0, 1) := by decide +kernel
theorem d_mo_pattern_42 : decode b_mo_pattern 42 = .ok (.getfield 45, 3) := by decide +kernel
theorem d_mo_pattern_45 : decode b_mo_pattern 45 = .ok (.imul, 1) := by decide +kernel
theorem d_mo_pattern_46 : decode b_mo_pattern 46 = .ok (.iload_n 1, 1) := by decide +kernel
theorem d_mo_pattern_47 : decode b_mo_pattern 47 = .ok (.iadd, 1) := by decide +kernel
theorem d_mo_pattern_48 : decode b_mo_pattern 48 = .ok (.iconst (-1), 1) := by decide +kernel
theorem d_mo_pattern_49 : decode b_mo_pattern 49 = .ok (.iastore, 1) := by decide +kernel
theorem d_mo_pattern_50 : decode b_mo_pattern 50 = .ok (.iinc 1 1, 3) := by decide +kernel
theorem d_mo_pattern_53 : decode b_mo_pattern 53 = .ok (.goto (-24), 3) := by decide +kernel
theorem d_mo_pattern_56 : decode b_mo_pattern 56 = .ok (.aload_n 0, 1) := by decide +kernel
theorem d_mo_pattern_57 : decode b_mo_pattern 57 = .ok (.getfield 23, 3) := by decide +kernel
theorem d_mo_pattern_60 : decode b_mo_pattern 60 = .ok (.aload_n 0, 1) := by decide +kernel
theorem d_mo_pattern_61 : decode b_mo_pattern 61 = .ok (.getfield 45, 3) := by decide +kernel
theorem d_mo_pattern_64 : decode b_mo_pattern 64 = .ok (.iconst (-1), 1) := by decide +kernel
theorem d_mo_pattern_65 : decode b_mo_pattern 65 = .ok (.iastore, 1) := by decide +kernel
theorem d_mo_pattern_66 : decode b_mo_pattern 66 = .ok (.aload_n 0, 1) := by decide +kernel
theorem d_mo_pattern_67 : decode b_mo_pattern 67 = .ok (.dup, 1) := by decide +kernel
theorem d_mo_pattern_68 : decode b_mo_pattern 68 = .ok (.getfield 45, 3) := by decide +kernel
theorem d_mo_pattern_71 : decode b_mo_pattern 71 = .ok (.iconst 1, 1) := by decide +kernel
theorem d_mo_pattern_72 : decode b_mo_pattern 72 = .ok (.iadd, 1) := by decide +kernel
theorem d_mo_pattern_73 : decode b_mo_pattern 73 = .ok (.putfield 45, 3) := by decide +kernel
theorem d_mo_pattern_76 : decode b_mo_pattern 76 = .ok (.aload_n 0, 1) := by decide +kernel
theorem d_mo_pattern_77 : decode b_mo_pattern 77 = .ok (.getfield 45, 3) := by decide +kernel
theorem d_mo_pattern_80 : decode b_mo_pattern 80 = .ok (.iconst 1, 1) := by decide +kernel
theorem d_mo_pattern_81 : decode b_mo_pattern 81 = .ok (.isub, 1) := by decide +kernel
theorem d_mo_pattern_82 : decode b_mo_pattern 82 = .ok (.ireturn, 1) := by decide +kernel
theorem d_mo_care_0 : decode b_mo_care 0 = .ok (.aload_n 0, 1) := by decide +kernel
theorem d_mo_care_1 : decode b_mo_care 1 = .ok (.aload_n 0, 1) := by decide +kernel
theorem d_mo_care_2 : decode b_mo_care 2 = .ok (.iload_n 1, 1) := by decide +kernel
theorem d_mo_care_3 : decode b_mo_care 3 = .ok (.invokevirtual 48, 3) := by decide +kernel
theorem d_mo_care_6 : decode b_mo_care 6 = .ok (.ifCond .eq 12, 3) := by decide +kernel
theorem d_mo_care_9 : decode b_mo_care 9 = .ok (.aload_n 0, 1) := by decide +kernel
theorem d_mo_care_10 : decode b_mo_care 10 = .ok (.iload_n 2, 1) := by decide +kernel
theorem d_mo_care_11 : decode b_mo_care 11 = .ok (.iload_n 3, 1) := by decide +kernel
theorem d_mo_care_12 : decode b_mo_care 12 = .ok (.invokevirtual 52, 3) := by decide +kernel
theorem d_mo_care_15 : decode b_mo_care 15 = .ok (.ifCond .ne 7, 3) := by decide +kernel
theorem d_mo_care_18 : decode b_mo_care 18 = .ok (.iconst 1, 1) := by decide +kernel
theorem d_mo_care_19 : decode b_mo_care 19 = .ok (.goto 20, 3) := by decide +kernel
theorem d_mo_care_22 : decode b_mo_care 22 = .ok (.iload 4, 2) := by decide +kernel
theorem d_mo_care_24 : decode b_mo_care 24 = .ok (.iconst (-1), 1) := by decide +kernel
theorem d_mo_care_25 : decode b_mo_care 25 = .ok (.if_icmp .lt 9, 3) := by decide +kernel
theorem d_mo_care_28 : decode b_mo_care 28 = .ok (.iload 4, 2) := by decide +kernel
theorem d_mo_care_30 : decode b_mo_care 30 = .ok (.iconst 1, 1) := by decide +kernel
theorem d_mo_care_31 : decode b_mo_care 31 = .ok (.if_icmp .le 7, 3) := by decide +kernel
theorem d_mo_care_34 : decode b_mo_care 34 = .ok (.iconst 2, 1) := by decide +kernel
theorem d_mo_care_35 : decode b_mo_care 35 = .ok (.goto 4, 3) := by decide +kernel
theorem d_mo_care_38 : decode b_mo_care 38 = .ok (.iconst 0, 1) := by decide +kernel
theorem d_mo_care_39 : decode b_mo_care 39 = .ok (.putfield 42, 3) := by decide +kernel
theorem d_mo_care_42 : decode b_mo_care 42 = .ok (.aload_n 0, 1) := by decide +kernel
theorem d_mo_care_43 : decode b_mo_care 43 = .ok (.getfield 42, 3) := by decide +kernel
theorem d_mo_care_46 : decode b_mo_care 46 = .ok (.ifCond .le 5, 3) := by decide +kernel
theorem d_mo_care_49 : decode b_mo_care 49 = .ok (.iconst 0, 1) := by decide +kernel
theorem d_mo_care_50 : decode b_mo_care 50 = .ok (.ireturn, 1) := by decide +kernel
theorem d_mo_care_51 : decode b_mo_care 51 = .ok (.aload_n 0, 1) := by decide +kernel
theorem d_mo_care_52 : decode b_mo_care 52 = .ok (.iload_n 1, 1) := by decide +kernel
theorem d_mo_care_53 : decode b_mo_care 53 = .ok (.iload_n 2, 1) := by decide +kernel
theorem d_mo_care_54 : decode b_mo_care 54 = .ok (.iload_n 3, 1) := by decide +kernel
theorem d_mo_care_55 : decode b_mo_care 55 = .ok (.invokevirtual 56, 3) := by decide +kernel
theorem d_mo_care_58 : decode b_mo_care 58 = .ok (.istore 5, 2) := by decide +kernel
theorem d_mo_care_60 : decode b_mo_care 60 = .ok (.aload_n 0, 1) := by decide +kernel
theorem d_mo_care_61 : decode b_mo_care 61 = .ok (.getfield 7, 3) := by decide +kernel
theorem d_mo_care_64 : decode b_mo_care 64 = .ok (.iload 5, 2) := by decide +kernel
theorem d_mo_care_66 : decode b_mo_care 66 = .ok (.iaload, 1) := by decide +kernel
theorem d_mo_care_67 : decode b_mo_care 67 = .ok (.iload 4, 2) := by decide +kernel
theorem d_mo_care_69 : decode b_mo_care 69 = .ok (.if_icmp .eq 7, 3) := by decide +kernel
theorem d_mo_care_72 : decode b_mo_care 72 = .ok (.iconst 1, 1) := by decide +kernel
theorem d_mo_care_73 : decode b_mo_care 73 = .ok (.goto 4, 3) := by decide +kernel
theorem d_mo_care_76 : decode b_mo_care 76 = .ok (.iconst 0, 1) := by decide +kernel
theorem d_mo_care_77 : decode b_mo_care 77 = .ok (.istore 6, 2) := by decide +kernel
theorem d_mo_care_79 : decode b_mo_care 79 = .ok (.aload_n 0, 1) := by decide +kernel
theorem d_mo_care_80 : decode b_mo_care 80 = .ok (.getfield 7, 3) := by decide +kernel
theorem d_mo_care_83 : decode b_mo_care 83 = .ok (.iload 5, 2) := by decide +kernel
theorem d_mo_care_85 : decode b_mo_care 85 = .ok (.iload 4, 2) := by decide +kernel
theorem d_mo_care_87 : decode b_mo_care 87 = .ok (.iastore, 1) := by decide +kernel
theorem d_mo_care_88 : decode b_mo_care 88 = .ok (.aload_n 0, 1) := by decide +kernel
theorem d_mo_care_89 : decode b_mo_care 89 = .ok (.getfield 23, 3) := by decide +kernel
theorem d_mo_care_92 : decode b_mo_care 92 = .ok (.iload_n 1, 1) := by decide +kernel
theorem d_mo_care_93 : decode b_mo_care 93 = .ok (.iload 6, 2) := by decide +kernel
theorem d_mo_care_95 : decode b_mo_care 95 = .ok (.ifCond .eq 7, 3) := by decide +kernel
theorem d_mo_care_98 : decode b_mo_care 98 = .ok (.iconst (-1), 1) := by decide +kernel
theorem d_mo_care_99 : decode b_mo_care 99 = .ok (.goto 9, 3) := by decide +kernel
theorem d_mo_care_102 : decode b_mo_care 102 = .ok (.aload_n 0, 1) := by decide +kernel
theorem d_mo_care_103 : decode b_mo_care 103 = .ok (.getfield 23, 3) := by decide +kernel
theorem d_mo_care_106 : decode b_mo_care 106 = .ok (.iload_n 1, 1) := by decide +kernel
theorem d_mo_care_107 : decode b_mo_care 107 = .ok (.iaload, 1) := by decide +kernel
theorem d_mo_care_108 : decode b_mo_care 108 = .ok (.iastore, 1) := by decide +kernel
theorem d_mo_care_109 : decode b_mo_care 109 = .ok (.iload 6, 2) := by decide +kernel
theorem d_mo_care_111 : decode b_mo_care 111 = .ok (.ireturn, 1) := by decide +kernel
theorem d_mo_found_0 : decode b_mo_found 0 = .ok (.aload_n 0, 1) := by decide +kernel
theorem d_mo_found_1 : decode b_mo_found 1 = .ok (.aload_n 0, 1) := by decide +kernel
theorem d_mo_found_2 : decode b_mo_found 2 = .ok (.iload_n 1, 1) := by decide +kernel
theorem d_mo_found_3 : decode b_mo_found 3 = .ok (.invokevirtual 48, 3) := by decide +kernel
theorem d_mo_found_6 : decode b_mo_found 6 = .ok (.ifCond .eq 17, 3) := by decide +kernel
theorem d_mo_found_9 : decode b_mo_found 9 = .ok (.iload_n 2, 1) := by decide +kernel
theorem d_mo_found_10 : decode b_mo_found 10 = .ok (.ifCond .lt 13, 3) := by decide +kernel
theorem d_mo_found_13 : decode b_mo_found 13 = .ok (.iload_n 2, 1) := by decide +kernel
theorem d_mo_found_14 : decode b_mo_found 14 = .ok (.bipush 31, 2) := by decide +kernel
theorem d_mo_found_16 : decode b_mo_found 16 = .ok (.if_icmp .ge 7, 3) := by decide +kernel
theorem d_mo_found_19 : decode b_mo_found 19 = .ok (.iconst 0, 1) := by decide +kernel
theorem d_mo_found_20 : decode b_mo_found 20 = .ok (.goto 4, 3) := by decide +kernel
theorem d_mo_found_23 : decode b_mo_found 23 = .ok (.iconst 1, 1) := by decide +kernel
theorem d_mo_found_24 : decode b_mo_found 24 = .ok (.putfield 42, 3) := by decide +kernel
theorem d_mo_found_27 : decode b_mo_found 27 = .ok (.aload_n 0, 1) := by decide +kernel
theorem d_mo_found_28 : decode b_mo_found 28 = .ok (.getfield 42, 3) := by decide +kernel
theorem d_mo_found_31 : decode b_mo_found 31 = .ok (.ifCond .le 5, 3) := by decide +kernel
theorem d_mo_found_34 : decode b_mo_found 34 = .ok (.iconst 0, 1) := by decide +kernel
theorem d_mo_found_35 : decode b_mo_found 35 = .ok (.ireturn, 1) := by decide +kernel
theorem d_mo_found_36 : decode b_mo_found 36 = .ok (.aload_n 0, 1) := by decide +kernel
theorem d_mo_found_37 : decode b_mo_found 37 = .ok (.getfield 17, 3) := by decide +kernel
theorem d_mo_found_40 : decode b_mo_found 40 = .ok (.bipush 31, 2) := by decide +kernel
theorem d_mo_found_42 : decode b_mo_found 42 = .ok (.iload_n 1, 1) := by decide +kernel
theorem d_mo_found_43 : decode b_mo_found 43 = .ok (.imul, 1) := by decide +kernel
theorem d_mo_found_44 : decode b_mo_found 44 = .ok (.iload_n 2, 1) := by decide +kernel
theorem d_mo_found_45 : decode b_mo_found 45 = .ok (.iadd, 1) := by decide +kernel
theorem d_mo_found_46 : decode b_mo_found 46 = .ok (.baload, 1) := by decide +kernel
theorem d_mo_found_47 : decode b_mo_found 47 = .ok (.ifCond .ne 7, 3) := by decide +kernel
theorem d_mo_found_50 : decode b_mo_found 50 = .ok (.iconst 1, 1) := by decide +kernel
theorem d_mo_found_51 : decode b_mo_found 51 = .ok (.goto 4, 3) := by decide +kernel
theorem d_mo_found_54 : decode b_mo_found 54 = .ok (.iconst 0, 1) := by decide +kernel
theorem d_mo_found_55 : decode b_mo_found 55 = .ok (.istore_n 3, 1) := by decide +kernel
theorem d_mo_found_56 : decode b_mo_found 56 = .ok (.aload_n 0, 1) := by decide +kernel
theorem d_mo_found_57 : decode b_mo_found 57 = .ok (.getfield 17, 3) := by decide +kernel
theorem d_mo_found_60 : decode b_mo_found 60 = .ok (.bipush 31, 2) := by decide +kernel
theorem d_mo_found_62 : decode b_mo_found 62 = .ok (.iload_n 1, 1) := by decide +kernel
theorem d_mo_found_63 : decode b_mo_found 63 = .ok (.imul, 1) := by decide +kernel
theorem d_mo_found_64 : decode b_mo_found 64 = .ok (.iload_n 2, 1) := by decide +kernel
theorem d_mo_found_65 : decode b_mo_found 65 = .ok (.iadd, 1) := by decide +kernel
theorem d_mo_found_66 : decode b_mo_found 66 = .ok (.iconst 1, 1) := by decide +kernel
theorem d_mo_found_67 : decode b_mo_found 67 = .ok (.bastore, 1) := by decide +kernel
theorem d_mo_found_68 : decode b_mo_found 68 = .ok (.iload_n 3, 1) := by decide +kernel
theorem d_mo_found_69 : decode b_mo_found 69 = .ok (.ireturn, 1) := by decide +kernel
theorem d_mo_mask_0 : decode b_mo_mask 0 = .ok (.aload_n 0, 1) := by decide +kernel
theorem d_mo_mask_1 : decode b_mo_mask 1 = .ok (.aload_n 0, 1) := by decide +kernel
theorem d_mo_mask_2 : decode b_mo_mask 2 = .ok (.iload_n 1, 1) := by decide +kernel
theorem d_mo_mask_3 : decode b_mo_mask 3 = .ok (.invokevirtual 48, 3) := by decide +kernel
theorem d_mo_mask_6 : decode b_mo_mask 6 = .ok (.ifCond .eq 16, 3) := by decide +kernel
theorem d_mo_mask_9 : decode b_mo_mask 9 = .ok (.aload_n 0, 1) := by decide +kernel
theorem d_mo_mask_10 : decode b_mo_mask 10 = .ok (.iload_n 2, 1) := by decide +kernel
theorem d_mo_mask_11 : decode b_mo_mask 11 = .ok (.iload_n 3, 1) := by decide +kernel
theorem d_mo_mask_12 : decode b_mo_mask 12 = .ok (.invokevirtual 52, 3) := by decide +kernel
theorem d_mo_mask_15 : decode b_mo_mask 15 = .ok (.ifCond .eq 7, 3) := by decide +kernel
theorem d_mo_mask_18 : decode b_mo_mask 18 = .ok (.iconst 0, 1) := by decide +kernel
theorem d_mo_mask_19 : decode b_mo_mask 19 = .ok (.goto 4, 3) := by decide +kernel
theorem d_mo_mask_22 : decode b_mo_mask 22 = .ok (.iconst 1, 1) := by decide +kernel
theorem d_mo_mask_23 : decode b_mo_mask 23 = .ok (.putfield 42, 3) := by decide +kernel
theorem d_mo_mask_26 : decode b_mo_mask 26 = .ok (.aload_n 0, 1) := by decide +kernel
theorem d_mo_mask_27 : decode b_mo_mask 27 = .ok (.getfield 42, 3) := by decide +kernel
theorem d_mo_mask_30 : decode b_mo_mask 30 = .ok (.ifCond .le 5, 3) := by decide +kernel
theorem d_mo_mask_33 : decode b_mo_mask 33 = .ok (.iconst 0, 1) := by decide +kernel
theorem d_mo_mask_34 : decode b_mo_mask 34 = .ok (.ireturn, 1) := by decide +kernel
theorem d_mo_mask_35 : decode b_mo_mask 35 = .ok (.aload_n 0, 1) := by decide +kernel
theorem d_mo_mask_36 : decode b_mo_mask 36 = .ok (.iload_n 1, 1) := by decide +kernel
theorem d_mo_mask_37 : decode b_mo_mask 37 = .ok (.iload_n 2, 1) := by decide +kernel
theorem d_mo_mask_38 : decode b_mo_mask 38 = .ok (.iload_n 3, 1) := by decide +kernel
theorem d_mo_mask_39 : decode b_mo_mask 39 = .ok (.invokevirtual 56, 3) := by decide +kernel
theorem d_mo_mask_42 : decode b_mo_mask 42 = .ok (.istore 4, 2) := by decide +kernel
theorem d_mo_mask_44 : decode b_mo_mask 44 = .ok (.aload_n 0, 1) := by decide +kernel
theorem d_mo_mask_45 : decode b_mo_mask 45 = .ok (.getfield 13, 3) := by decide +kernel
theorem d_mo_mask_48 : decode b_mo_mask 48 = .ok (.iload 4, 2) := by decide +kernel
theorem d_mo_mask_50 : decode b_mo_mask 50 = .ok (.baload, 1) := by decide +kernel
theorem d_mo_mask_51 : decode b_mo_mask 51 = .ok (.ifCond .ne 7, 3) := by decide +kernel
theorem d_mo_mask_54 : decode b_mo_mask 54 = .ok (.iconst 1, 1) := by decide +kernel
theorem d_mo_mask_55 : decode b_mo_mask 55 = .ok (.goto 4, 3) := by decide +kernel
theorem d_mo_mask_58 : decode b_mo_mask 58 = .ok (.iconst 0, 1) := by decide +kernel
theorem d_mo_mask_59 : decode b_mo_mask 59 = .ok (.istore 5, 2) := by decide +kernel
theorem d_mo_mask_61 : decode b_mo_mask 61 = .ok (.aload_n 0, 1) := by decide +kernel
theorem d_mo_mask_62 : decode b_mo_mask 62 = .ok (.getfield 13, 3) := by decide +kernel
theorem d_mo_mask_65 : decode b_mo_mask 65 = .ok (.iload 4, 2) := by decide +kernel
theorem d_mo_mask_67 : decode b_mo_mask 67 = .ok (.iconst 1, 1) := by decide +kernel
theorem d_mo_mask_68 : decode b_mo_mask 68 = .ok (.bastore, 1) := by decide +kernel
theorem d_mo_mask_69 : decode b_mo_mask 69 = .ok (.iload 5, 2) := by decide +kernel
theorem d_mo_mask_71 : decode b_mo_mask 71 = .ok (.ireturn, 1) := by decide +kernel
theorem d_mo_goTogether_0 : decode b_mo_goTogether 0 = .ok (.iconst 1, 1) := by decide +kernel
theorem d_mo_goTogether_1 : decode b_mo_goTogether 1 = .ok (.istore_n 3, 1) := by decide +kernel
theorem d_mo_goTogether_2 : decode b_mo_goTogether 2 = .ok (.iconst 0, 1) := by decide +kernel
theorem d_mo_goTogether_3 : decode b_mo_goTogether 3 = .ok (.istore 4, 2) := by decide +kernel
theorem d_mo_goTogether_5 : decode b_mo_goTogether 5 = .ok (.iload 4, 2) := by decide +kernel
theorem d_mo_goTogether_7 : decode b_mo_goTogether 7 = .ok (.bipush 32, 2) := by decide +kernel
theorem d_mo_goTogether_9 : decode b_mo_goTogether 9 = .ok (.if_icmp .ge 66, 3) := by decide +kernel
theorem d_mo_goTogether_12 : decode b_mo_goTogether 12 = .ok (.aload_n 0, 1) := by decide +kernel
theorem d_mo_goTogether_13 : decode b_mo_goTogether 13 = .ok (.getfield 7, 3) := by decide +kernel
theorem d_mo_goTogether_16 : decode b_mo_goTogether 16 = .ok (.bipush 32, 2) := by decide +kernel
theorem d_mo_goTogether_18 : decode b_mo_goTogether 18 = .ok (.iload_n 1, 1) := by decide +kernel
theorem d_mo_goTogether_19 : decode b_mo_goTogether 19 = .ok (.imul, 1) := by decide +kernel
theorem d_mo_goTogether_20 : decode b_mo_goTogether 20 = .ok (.iload 4, 2) := by decide +kernel
theorem d_mo_goTogether_22 : decode b_mo_goTogether 22 = .ok (.iadd, 1) := by decide +kernel
theorem d_mo_goTogether_23 : decode b_mo_goTogether 23 = .ok (.iaload, 1) := by decide +kernel
theorem d_mo_goTogether_24 : decode b_mo_goTogether 24 = .ok (.istore 5, 2) := by decide +kernel
theorem d_mo_goTogether_26 : decode b_mo_goTogether 26 = .ok (.aload_n 0, 1) := by decide +kernel
theorem d_mo_goTogether_27 : decode b_mo_goTogether 27 = .ok (.getfield 7, 3) := by decide +kernel
theorem d_mo_goTogether_30 : decode b_mo_goTogether 30 = .ok (.bipush 32, 2) := by decide +kernel
theorem d_mo_goTogether_32 : decode b_mo_goTogether 32 = .ok (.iload_n 2, 1) := by decide +kernel
theorem d_mo_goTogether_33 : decode b_mo_goTogether 33 = .ok (.imul, 1) := by decide +kernel
theorem d_mo_goTogether_34 : decode b_mo_goTogether 34 = .ok (.iload 4, 2) := by decide +kernel
theorem d_mo_goTogether_36 : decode b_mo_goTogether 36 = .ok (.iadd, 1) := by decide +kernel
theorem d_mo_goTogether_37 : decode b_mo_goTogether 37 = .ok (.iaload, 1) := by decide +kernel
theorem d_mo_goTogether_38 : decode b_mo_goTogether 38 = .ok (.istore 6, 2) := by decide +kernel
theorem d_mo_goTogether_40 : decode b_mo_goTogether 40 = .ok (.iload_n 3, 1) := by decide +kernel
theorem d_mo_goTogether_41 : decode b_mo_goTogether 41 = .ok (.ifCond .eq 26, 3) := by decide +kernel
theorem d_mo_goTogether_44 : decode b_mo_goTogether 44 = .ok (.iload 5, 2) := by decide +kernel
theorem d_mo_goTogether_46 : decode b_mo_goTogether 46 = .ok (.iconst (-1), 1) := by decide +kernel
theorem d_mo_goTogether_47 : decode b_mo_goTogether 47 = .ok (.if_icmp .eq 16, 3) := by decide +kernel
theorem d_mo_goTogether_50 : decode b_mo_goTogether 50 = .ok (.iload 6, 2) := by decide +kernel
theorem d_mo_goTogether_52 : decode b_mo_goTogether 52 = .ok (.iconst (-1), 1) := by decide +kernel
theorem d_mo_goTogether_53 : decode b_mo_goTogether 53 = .ok (.if_icmp .eq 10, 3) := by decide +kernel
theorem d_mo_goTogether_56 : decode b_mo_goTogether 56 = .ok (.iload 5, 2) := by decide +kernel
theorem d_mo_goTogether_58 : decode b_mo_goTogether 58 = .ok (.iload 6, 2) := by decide +kernel
theorem d_mo_goTogether_60 : decode b_mo_goTogether 60 = .ok (.if_icmp .ne 7, 3) := by decide +kernel
theorem d_mo_goTogether_63 : decode b_mo_goTogether 63 = .ok (.iconst 1, 1) := by decide +kernel
theorem d_mo_goTogether_64 : decode b_mo_goTogether 64 = .ok (.goto 4, 3) := by decide +kernel
theorem d_mo_goTogether_67 : decode b_mo_goTogether 67 = .ok (.iconst 0, 1) := by decide +kernel
theorem d_mo_goTogether_68 : decode b_mo_goTogether 68 = .ok (.istore_n 3, 1) := by decide +kernel
theorem d_mo_goTogether_69 : decode b_mo_goTogether 69 = .ok (.iinc 4 1, 3) := by decide +kernel
theorem d_mo_goTogether_72 : decode b_mo_goTogether 72 = .ok (.goto (-67), 3) := by decide +kernel
theorem d_mo_goTogether_75 : decode b_mo_goTogether 75 = .ok (.iload_n 3, 1) := by decide +kernel
theorem d_mo_goTogether_76 : decode b_mo_goTogether 76 = .ok (.ireturn, 1) := by decide +kernel
theorem d_mo_left_0 : decode b_mo_left 0 = .ok (.iconst 0, 1) := by decide +kernel
theorem d_mo_left_1 : decode b_mo_left 1 = .ok (.istore_n 1, 1) := by decide +kernel
theorem d_mo_left_2 : decode b_mo_left 2 = .ok (.iconst 0, 1) := by decide +kernel
theorem d_mo_left_3 : decode b_mo_left 3 = .ok (.istore_n 2, 1) := by decide +kernel
theorem d_mo_left_4 : decode b_mo_left 4 = .ok (.iload_n 2, 1) := by decide +kernel
theorem d_mo_left_5 : decode b_mo_left 5 = .ok (.aload_n 0, 1) := by decide +kernel
theorem d_mo_left_6 : decode b_mo_left 6 = .ok (.getfield 45, 3) := by decide +kernel
theorem d_mo_left_9 : decode b_mo_left 9 = .ok (.if_icmp .ge 26, 3) := by decide +kernel
theorem d_mo_left_12 : decode b_mo_left 12 = .ok (.aload_n 0, 1) := by decide +kernel
theorem d_mo_left_13 : decode b_mo_left 13 = .ok (.getfield 20, 3) := by decide +kernel
theorem d_mo_left_16 : decode b_mo_left 16 = .ok (.iload_n 2, 1) := by decide +kernel
theorem d_mo_left_17 : decode b_mo_left 17 = .ok (.baload, 1) := by decide +kernel
theorem d_mo_left_18 : decode b_mo_left 18 = .ok (.ifCond .eq 7, 3) := by decide +kernel
theorem d_mo_left_21 : decode b_mo_left 21 = .ok (.iload_n 1, 1) := by decide +kernel
theorem d_mo_left_22 : decode b_mo_left 22 = .ok (.goto 6, 3) := by decide +kernel
theorem d_mo_left_25 : decode b_mo_left 25 = .ok (.iload_n 1, 1) := by decide +kernel
theorem d_mo_left_26 : decode b_mo_left 26 = .ok (.iconst 1, 1) := by decide +kernel
theorem d_mo_left_27 : decode b_mo_left 27 = .ok (.iadd, 1) := by decide +kernel
theorem d_mo_left_28 : decode b_mo_left 28 = .ok (.istore_n 1, 1) := by decide +kernel
theorem d_mo_left_29 : decode b_mo_left 29 = .ok (.iinc 2 1, 3) := by decide +kernel
theorem d_mo_left_32 : decode b_mo_left 32 = .ok (.goto (-28), 3) := by decide +kernel
theorem d_mo_left_35 : decode b_mo_left 35 = .ok (.iload_n 1, 1) := by decide +kernel
theorem d_mo_left_36 : decode b_mo_left 36 = .ok (.ireturn, 1) := by decide +kernel
theorem d_mo_join_0 : decode b_mo_join 0 = .ok (.aload_n 0, 1) := by decide +kernel
theorem d_mo_join_1 : decode b_mo_join 1 = .ok (.iconst 0, 1) := by decide +kernel
theorem d_mo_join_2 : decode b_mo_join 2 = .ok (.putfield 42, 3) := by decide +kernel
theorem d_mo_join_5 : decode b_mo_join 5 = .ok (.iconst 0, 1) := by decide +kernel
theorem d_mo_join_6 : decode b_mo_join 6 = .ok (.istore_n 1, 1) := by decide +kernel
theorem d_mo_join_7 : decode b_mo_join 7 = .ok (.iload_n 1, 1) := by decide +kernel
theorem d_mo_join_8 : decode b_mo_join 8 = .ok (.aload_n 0, 1) := by decide +kernel
theorem d_mo_join_9 : decode b_mo_join 9 = .ok (.getfield 45, 3) := by decide +kernel
theorem d_mo_join_12 : decode b_mo_join 12 = .ok (.if_icmp .ge 235, 3) := by decide +kernel
theorem d_mo_join_15 : decode b_mo_join 15 = .ok (.iload_n 1, 1) := by decide +kernel
theorem d_mo_join_16 : decode b_mo_join 16 = .ok (.iconst 1, 1) := by decide +kernel
theorem d_mo_join_17 : decode b_mo_join 17 = .ok (.iadd, 1) := by decide +kernel
theorem d_mo_join_18 : decode b_mo_join 18 = .ok (.istore_n 2, 1) := by decide +kernel
theorem d_mo_join_19 : decode b_mo_join 19 = .ok (.iload_n 2, 1) := by decide +kernel
theorem d_mo_join_20 : decode b_mo_join 20 = .ok (.aload_n 0, 1) := by decide +kernel
theorem d_mo_join_21 : decode b_mo_join 21 = .ok (.getfield 45, 3) := by decide +kernel
theorem d_mo_join_24 : decode b_mo_join 24 = .ok (.if_icmp .ge 217, 3) := by decide +kernel
theorem d_mo_join_27 : decode b_mo_join 27 = .ok (.aload_n 0, 1) := by decide +kernel
theorem d_mo_join_28 : decode b_mo_join 28 = .ok (.getfield 20, 3) := by decide +kernel
theorem d_mo_join_31 : decode b_mo_join 31 = .ok (.iload_n 1, 1) := by decide +kernel
theorem d_mo_join_32 : decode b_mo_join 32 = .ok (.baload, 1) := by decide +kernel
theorem d_mo_join_33 : decode b_mo_join 33 = .ok (.ifCond .ne 202, 3) := by decide +kernel
theorem d_mo_join_36 : decode b_mo_join 36 = .ok (.aload_n 0, 1) := by decide +kernel
theorem d_mo_join_37 : decode b_mo_join 37 = .ok (.getfield 20, 3) := by decide +kernel
theorem d_mo_join_40 : decode b_mo_join 40 = .ok (.iload_n 2, 1) := by decide +kernel
theorem d_mo_join_41 : decode b_mo_join 41 = .ok (.baload, 1) := by decide +kernel
theorem d_mo_join_42 : decode b_mo_join 42 = .ok (.ifCond .ne 193, 3) := by decide +kernel
theorem d_mo_join_45 : decode b_mo_join 45 = .ok (.aload_n 0, 1) := by decide +kernel
theorem d_mo_join_46 : decode b_mo_join 46 = .ok (.iload_n 1, 1) := by decide +kernel
theorem d_mo_join_47 : decode b_mo_join 47 = .ok (.iload_n 2, 1) := by decide +kernel
theorem d_mo_join_48 : decode b_mo_join 48 = .ok (.invokevirtual 60, 3) := by decide +kernel
theorem d_mo_join_51 : decode b_mo_join 51 = .ok (.ifCond .eq 184, 3) := by decide +kernel
theorem d_mo_join_54 : decode b_mo_join 54 = .ok (.iconst 0, 1) := by decide +kernel
theorem d_mo_join_55 : decode b_mo_join 55 = .ok (.istore_n 3, 1) := by decide +kernel
theorem d_mo_join_56 : decode b_mo_join 56 = .ok (.iload_n 3, 1) := by decide +kernel
theorem d_mo_join_57 : decode b_mo_join 57 = .ok (.bipush 32, 2) := by decide +kernel
theorem d_mo_join_59 : decode b_mo_join 59 = .ok (.if_icmp .ge 104, 3) := by decide +kernel
theorem d_mo_join_62 : decode b_mo_join 62 = .ok (.aload_n 0, 1) := by decide +kernel
theorem d_mo_join_63 : decode b_mo_join 63 = .ok (.getfield 7, 3) := by decide +kernel
theorem d_mo_join_66 : decode b_mo_join 66 = .ok (.bipush 32, 2) := by decide +kernel
theorem d_mo_join_68 : decode b_mo_join 68 = .ok (.iload_n 1, 1) := by decide +kernel
theorem d_mo_join_69 : decode b_mo_join 69 = .ok (.imul, 1) := by decide +kernel
theorem d_mo_join_70 : decode b_mo_join 70 = .ok (.iload_n 3, 1) := by decide +kernel
theorem d_mo_join_71 : decode b_mo_join 71 = .ok (.iadd, 1) := by decide +kernel
theorem d_mo_join_72 : decode b_mo_join 72 = .ok (.aload_n 0, 1) := by decide +kernel
theorem d_mo_join_73 : decode b_mo_join 73 = .ok (.getfield 7, 3) := by decide +kernel
theorem d_mo_join_76 : decode b_mo_join 76 = .ok (.bipush 32, 2) := by decide +kernel
theorem d_mo_join_78 : decode b_mo_join 78 = .ok (.iload_n 2, 1) := by decide +kernel
theorem d_mo_join_79 : decode b_mo_join 79 = .ok (.imul, 1) := by decide +kernel
theorem d_mo_join_80 : decode b_mo_join 80 = .ok (.iload_n 3, 1) := by decide +kernel
theorem d_mo_join_81 : decode b_mo_join 81 = .ok (.iadd, 1) := by decide +kernel
theorem d_mo_join_82 : decode b_mo_join 82 = .ok (.iaload, 1) := by decide +kernel
theorem d_mo_join_83 : decode b_mo_join 83 = .ok (.iconst (-1), 1) := by decide +kernel
theorem d_mo_join_84 : decode b_mo_join 84 = .ok (.if_icmp .ne 17, 3) := by decide +kernel
theorem d_mo_join_87 : decode b_mo_join 87 = .ok (.aload_n 0, 1) := by decide +kernel
theorem d_mo_join_88 : decode b_mo_join 88 = .ok (.getfield 7, 3) := by decide +kernel
theorem d_mo_join_91 : decode b_mo_join 91 = .ok (.bipush 32, 2) := by decide +kernel
theorem d_mo_join_93 : decode b_mo_join 93 = .ok (.iload_n 1, 1) := by decide +kernel
theorem d_mo_join_94 : decode b_mo_join 94 = .ok (.imul, 1) := by decide +kernel
theorem d_mo_join_95 : decode b_mo_join 95 = .ok (.iload_n 3, 1) := by decide +kernel
theorem d_mo_join_96 : decode b_mo_join 96 = .ok (.iadd, 1) := by decide +kernel
theorem d_mo_join_97 : decode b_mo_join 97 = .ok (.iaload, 1) := by decide +kernel
theorem d_mo_join_98 : decode b_mo_join 98 = .ok (.goto 14, 3) := by decide +kernel
theorem d_mo_join_101 : decode b_mo_join 101 = .ok (.aload_n 0, 1) := by decide +kernel
theorem d_mo_join_102 : decode b_mo_join 102 = .ok (.getfield 7, 3) := by decide +kernel
theorem d_mo_join_105 : decode b_mo_join 105 = .ok (.bipush 32, 2) := by decide +kernel
theorem d_mo_join_107 : decode b_mo_join 107 = .ok (.iload_n 2, 1) := by decide +kernel
theorem d_mo_join_108 : decode b_mo_join 108 = .ok (.imul, 1) := by decide +kernel
theorem d_mo_join_109 : decode b_mo_join 109 = .ok (.iload_n 3, 1) := by decide +kernel
theorem d_mo_join_110 : decode b_mo_join 110 = .ok (.iadd, 1) := by decide +kernel
theorem d_mo_join_111 : decode b_mo_join 111 = .ok (.iaload, 1) := by decide +kernel
theorem d_mo_join_112 : decode b_mo_join 112 = .ok (.iastore, 1) := by decide +kernel
theorem d_mo_join_113 : decode b_mo_join 113 = .ok (.aload_n 0, 1) := by decide +kernel
theorem d_mo_join_114 : decode b_mo_join 114 = .ok (.getfield 13, 3) := by decide +kernel
theorem d_mo_join_117 : decode b_mo_join 117 = .ok (.bipush 32, 2) := by decide +kernel
theorem d_mo_join_119 : decode b_mo_join 119 = .ok (.iload_n 1, 1) := by decide +kernel
theorem d_mo_join_120 : decode b_mo_join 120 = .ok (.imul, 1) := by decide +kernel
theorem d_mo_join_121 : decode b_mo_join 121 = .ok (.iload_n 3, 1) := by decide +kernel
theorem d_mo_join_122 : decode b_mo_join 122 = .ok (.iadd, 1) := by decide +kernel
theorem d_mo_join_123 : decode b_mo_join 123 = .ok (.aload_n 0, 1) := by decide +kernel
theorem d_mo_join_124 : decode b_mo_join 124 = .ok (.getfield 13, 3) := by decide +kernel
theorem d_mo_join_127 : decode b_mo_join 127 = .ok (.bipush 32, 2) := by decide +kernel
theorem d_mo_join_129 : decode b_mo_join 129 = .ok (.iload_n 1, 1) := by decide +kernel
theorem d_mo_join_130 : decode b_mo_join 130 = .ok (.imul, 1) := by decide +kernel
theorem d_mo_join_131 : decode b_mo_join 131 = .ok (.iload_n 3, 1) := by decide +kernel
theorem d_mo_join_132 : decode b_mo_join 132 = .ok (.iadd, 1) := by decide +kernel
theorem d_mo_join_133 : decode b_mo_join 133 = .ok (.baload, 1) := by decide +kernel
theorem d_mo_join_134 : decode b_mo_join 134 = .ok (.ifCond .ne 17, 3) := by decide +kernel
theorem d_mo_join_137 : decode b_mo_join 137 = .ok (.aload_n 0, 1) := by decide +kernel
theorem d_mo_join_138 : decode b_mo_join 138 = .ok (.getfield 13, 3) := by decide +kernel
theorem d_mo_join_141 : decode b_mo_join 141 = .ok (.bipush 32, 2) := by decide +kernel
theorem d_mo_join_143 : decode b_mo_join 143 = .ok (.iload_n 2, 1) := by decide +kernel
theorem d_mo_join_144 : decode b_mo_join 144 = .ok (.imul, 1) := by decide +kernel
theorem d_mo_join_145 : decode b_mo_join 145 = .ok (.iload_n 3, 1) := by decide +kernel
theorem d_mo_join_146 : decode b_mo_join 146 = .ok (.iadd, 1) := by decide +kernel
theorem d_mo_join_147 : decode b_mo_join 147 = .ok (.baload, 1) := by decide +kernel
theorem d_mo_join_148 : decode b_mo_join 148 = .ok (.ifCond .eq 7, 3) := by decide +kernel
theorem d_mo_join_151 : decode b_mo_join 151 = .ok (.iconst 1, 1) := by decide +kernel
theorem d_mo_join_152 : decode b_mo_join 152 = .ok (.goto 4, 3) := by decide +kernel
theorem d_mo_join_155 : decode b_mo_join 155 = .ok (.iconst 0, 1) := by decide +kernel
theorem d_mo_join_156 : decode b_mo_join 156 = .ok (.bastore, 1) := by decide +kernel
theorem d_mo_join_157 : decode b_mo_join 157 = .ok (.iinc 3 1, 3) := by decide +kernel
theorem d_mo_join_160 : decode b_mo_join 160 = .ok (.goto (-104), 3) := by decide +kernel
theorem d_mo_join_163 : decode b_mo_join 163 = .ok (.iconst 0, 1) := by decide +kernel
theorem d_mo_join_164 : decode b_mo_join 164 = .ok (.istore_n 3, 1) := by decide +kernel
theorem d_mo_join_165 : decode b_mo_join 165 = .ok (.iload_n 3, 1) := by decide +kernel
theorem d_mo_join_166 : decode b_mo_join 166 = .ok (.bipush 31, 2) := by decide +kernel
theorem d_mo_join_168 : decode b_mo_join 168 = .ok (.if_icmp .ge 53, 3) := by decide +kernel
theorem d_mo_join_171 : decode b_mo_join 171 = .ok (.aload_n 0, 1) := by decide +kernel
theorem d_mo_join_172 : decode b_mo_join 172 = .ok (.getfield 17, 3) := by decide +kernel
theorem d_mo_join_175 : decode b_mo_join 175 = .ok (.bipush 31, 2) := by decide +kernel
theorem d_mo_join_177 : decode b_mo_join 177 = .ok (.iload_n 1, 1) := by decide +kernel
theorem d_mo_join_178 : decode b_mo_join 178 = .ok (.imul, 1) := by decide +kernel
theorem d_mo_join_179 : decode b_mo_join 179 = .ok (.iload_n 3, 1) := by decide +kernel
theorem d_mo_join_180 : decode b_mo_join 180 = .ok (.iadd, 1) := by decide +kernel
theorem d_mo_join_181 : decode b_mo_join 181 = .ok (.aload_n 0, 1) := by decide +kernel
theorem d_mo_join_182 : decode b_mo_join 182 = .ok (.getfield 17, 3) := by decide +kernel
theorem d_mo_join_185 : decode b_mo_join 185 = .ok (.bipush 31, 2) := by decide +kernel
theorem d_mo_join_187 : decode b_mo_join 187 = .ok (.iload_n 1, 1) := by decide +kernel
theorem d_mo_join_188 : decode b_mo_join 188 = .ok (.imul, 1) := by decide +kernel
theorem d_mo_join_189 : decode b_mo_join 189 = .ok (.iload_n 3, 1) := by decide +kernel
theorem d_mo_join_190 : decode b_mo_join 190 = .ok (.iadd, 1) := by decide +kernel
theorem d_mo_join_191 : decode b_mo_join 191 = .ok (.baload, 1) := by decide +kernel
theorem d_mo_join_192 : decode b_mo_join 192 = .ok (.ifCond .ne 17, 3) := by decide +kernel
theorem d_mo_join_195 : decode b_mo_join 195 = .ok (.aload_n 0, 1) := by decide +kernel
theorem d_mo_join_196 : decode b_mo_join 196 = .ok (.getfield 17, 3) := by decide +kernel
theorem d_mo_join_199 : decode b_mo_join 199 = .ok (.bipush 31, 2) := by decide +kernel
theorem d_mo_join_201 : decode b_mo_join 201 = .ok (.iload_n 2, 1) := by decide +kernel
theorem d_mo_join_202 : decode b_mo_join 202 = .ok (.imul, 1) := by decide +kernel
theorem d_mo_join_203 : decode b_mo_join 203 = .ok (.iload_n 3, 1) := by decide +kernel
theorem d_mo_join_204 : decode b_mo_join 204 = .ok (.iadd, 1) := by decide +kernel
theorem d_mo_join_205 : decode b_mo_join 205 = .ok (.baload, 1) := by decide +kernel
theorem d_mo_join_206 : decode b_mo_join 206 = .ok (.ifCond .eq 7, 3) := by decide +kernel
theorem d_mo_join_209 : decode b_mo_join 209 = .ok (.iconst 1, 1) := by decide +kernel
theorem d_mo_join_210 : decode b_mo_join 210 = .ok (.goto 4, 3) := by decide +kernel
theorem d_mo_join_213 : decode b_mo_join 213 = .ok (.iconst 0, 1) := by decide +kernel
theorem d_mo_join_214 : decode b_mo_join 214 = .ok (.bastore, 1) := by decide +kernel
theorem d_mo_join_215 : decode b_mo_join 215 = .ok (.iinc 3 1, 3) := by decide +kernel
theorem d_mo_join_218 : decode b_mo_join 218 = .ok (.goto (-53), 3) := by decide +kernel
theorem d_mo_join_221 : decode b_mo_join 221 = .ok (.aload_n 0, 1) := by decide +kernel
theorem d_mo_join_222 : decode b_mo_join 222 = .ok (.getfield 20, 3) := by decide +kernel
theorem d_mo_join_225 : decode b_mo_join 225 = .ok (.iload_n 2, 1) := by decide +kernel
theorem d_mo_join_226 : decode b_mo_join 226 = .ok (.iconst 1, 1) := by decide +kernel
theorem d_mo_join_227 : decode b_mo_join 227 = .ok (.bastore, 1) := by decide +kernel
theorem d_mo_join_228 : decode b_mo_join 228 = .ok (.aload_n 0, 1) := by decide +kernel
theorem d_mo_join_229 : decode b_mo_join 229 = .ok (.getfield 23, 3) := by decide +kernel
theorem d_mo_join_232 : decode b_mo_join 232 = .ok (.iload_n 1, 1) := by decide +kernel
theorem d_mo_join_233 : decode b_mo_join 233 = .ok (.iconst (-1), 1) := by decide +kernel
theorem d_mo_join_234 : decode b_mo_join 234 = .ok (.iastore, 1) := by decide +kernel
theorem d_mo_join_235 : decode b_mo_join 235 = .ok (.iinc 2 1, 3) := by decide +kernel
theorem d_mo_join_238 : decode b_mo_join 238 = .ok (.goto (-219), 3) := by decide +kernel
theorem d_mo_join_241 : decode b_mo_join 241 = .ok (.iinc 1 1, 3) := by decide +kernel
theorem d_mo_join_244 : decode b_mo_join 244 = .ok (.goto (-237), 3) := by decide +kernel
theorem d_mo_join_247 : decode b_mo_join 247 = .ok (.aload_n 0, 1) := by decide +kernel
theorem d_mo_join_248 : decode b_mo_join 248 = .ok (.invokevirtual 63, 3) := by decide +kernel
theorem d_mo_join_251 : decode b_mo_join 251 = .ok (.ireturn, 1) := by decide +kernel
theorem d_mo_findersOf_0 : decode b_mo_findersOf 0 = .ok (.iconst 0, 1) := by decide +kernel
theorem d_mo_findersOf_1 : decode b_mo_findersOf 1 = .ok (.istore_n 2, 1) := by decide +kernel
theorem d_mo_findersOf_2 : decode b_mo_findersOf 2 = .ok (.iconst 0, 1) := by decide +kernel
theorem d_mo_findersOf_3 : decode b_mo_findersOf 3 = .ok (.istore_n 3, 1) := by decide +kernel
theorem d_mo_findersOf_4 : decode b_mo_findersOf 4 = .ok (.iload_n 3, 1) := by decide +kernel
theorem d_mo_findersOf_5 : decode b_mo_findersOf 5 = .ok (.aload_n 0, 1) := by decide +kernel
theorem d_mo_findersOf_6 : decode b_mo_findersOf 6 = .ok (.getfield 45, 3) := by decide +kernel
theorem d_mo_findersOf_9 : decode b_mo_findersOf 9 = .ok (.if_icmp .ge 40, 3) := by decide +kernel
theorem d_mo_findersOf_12 : decode b_mo_findersOf 12 = .ok (.aload_n 0, 1) := by decide +kernel
theorem d_mo_findersOf_13 : decode b_mo_findersOf 13 = .ok (.getfield 20, 3) := by decide +kernel
theorem d_mo_findersOf_16 : decode b_mo_findersOf 16 = .ok (.iload_n 3, 1) := by decide +kernel
theorem d_mo_findersOf_17 : decode b_mo_findersOf 17 = .ok (.baload, 1) := by decide +kernel
theorem d_mo_findersOf_18 : decode b_mo_findersOf 18 = .ok (.ifCond .ne 23, 3) := by decide +kernel
theorem d_mo_findersOf_21 : decode b_mo_findersOf 21 = .ok (.aload_n 0, 1) := by decide +kernel
theorem d_mo_findersOf_22 : decode b_mo_findersOf 22 = .ok (.getfield 17, 3) := by decide +kernel
theorem d_mo_findersOf_25 : decode b_mo_findersOf 25 = .ok (.bipush 31, 2) := by decide +kernel
theorem d_mo_findersOf_27 : decode b_mo_findersOf 27 = .ok (.iload_n 3, 1) := by decide +kernel
theorem d_mo_findersOf_28 : decode b_mo_findersOf 28 = .ok (.imul, 1) := by decide +kernel
theorem d_mo_findersOf_29 : decode b_mo_findersOf 29 = .ok (.iload_n 1, 1) := by decide +kernel
theorem d_mo_findersOf_30 : decode b_mo_findersOf 30 = .ok (.iadd, 1) := by decide +kernel
theorem d_mo_findersOf_31 : decode b_mo_findersOf 31 = .ok (.baload, 1) := by decide +kernel
theorem d_mo_findersOf_32 : decode b_mo_findersOf 32 = .ok (.ifCond .eq 9, 3) := by decide +kernel
theorem d_mo_findersOf_35 : decode b_mo_findersOf 35 = .ok (.iload_n 2, 1) := by decide +kernel
theorem d_mo_findersOf_36 : decode b_mo_findersOf 36 = .ok (.iconst 1, 1) := by decide +kernel
theorem d_mo_findersOf_37 : decode b_mo_findersOf 37 = .ok (.iadd, 1) := by decide +kernel
theorem d_mo_findersOf_38 : decode b_mo_findersOf 38 = .ok (.goto 4, 3) := by decide +kernel
theorem d_mo_findersOf_41 : decode b_mo_findersOf 41 = .ok (.iload_n 2, 1) := by decide +kernel
theorem d_mo_findersOf_42 : decode b_mo_findersOf 42 = .ok (.istore_n 2, 1) := by decide +kernel
theorem d_mo_findersOf_43 : decode b_mo_findersOf 43 = .ok (.iinc 3 1, 3) := by decide +kernel
theorem d_mo_findersOf_46 : decode b_mo_findersOf 46 = .ok (.goto (-42), 3) := by decide +kernel
theorem d_mo_findersOf_49 : decode b_mo_findersOf 49 = .ok (.iload_n 2, 1) := by decide +kernel
theorem d_mo_findersOf_50 : decode b_mo_findersOf 50 = .ok (.ireturn, 1) := by decide +kernel
end
section
theorem d_mo_drop_0 : decode b_mo_drop 0 = .ok (.aload_n 0, 1) := by decide +kernel
theorem d_mo_drop_1 : decode b_mo_drop 1 = .ok (.iconst 0, 1) := by decide +kernel
theorem d_mo_drop_2 : decode b_mo_drop 2 = .ok (.putfield 42, 3) := by decide +kernel
theorem d_mo_drop_5 : decode b_mo_drop 5 = .ok (.aload_n 0, 1) := by decide +kernel
theorem d_mo_drop_6 : decode b_mo_drop 6 = .ok (.getfield 45, 3) := by decide +kernel
theorem d_mo_drop_9 : decode b_mo_drop 9 = .ok (.iconst 1, 1) := by decide +kernel
theorem d_mo_drop_10 : decode b_mo_drop 10 = .ok (.isub, 1) := by decide +kernel
theorem d_mo_drop_11 : decode b_mo_drop 11 = .ok (.istore_n 1, 1) := by decide +kernel
theorem d_mo_drop_12 : decode b_mo_drop 12 = .ok (.iload_n 1, 1) := by decide +kernel
theorem d_mo_drop_13 : decode b_mo_drop 13 = .ok (.ifCond .lt 82, 3) := by decide +kernel
theorem d_mo_drop_16 : decode b_mo_drop 16 = .ok (.iconst 1, 1) := by decide +kernel
theorem d_mo_drop_17 : decode b_mo_drop 17 = .ok (.istore_n 2, 1) := by decide +kernel
theorem d_mo_drop_18 : decode b_mo_drop 18 = .ok (.iconst 0, 1) := by decide +kernel
theorem d_mo_drop_19 : decode b_mo_drop 19 = .ok (.istore_n 3, 1) := by decide +kernel
theorem d_mo_drop_20 : decode b_mo_drop 20 = .ok (.iload_n 3, 1) := by decide +kernel
theorem d_mo_drop_21 : decode b_mo_drop 21 = .ok (.bipush 31, 2) := by decide +kernel
theorem d_mo_drop_23 : decode b_mo_drop 23 = .ok (.if_icmp .ge 42, 3) := by decide +kernel
theorem d_mo_drop_26 : decode b_mo_drop 26 = .ok (.iload_n 2, 1) := by decide +kernel
theorem d_mo_drop_27 : decode b_mo_drop 27 = .ok (.ifCond .eq 30, 3) := by decide +kernel
theorem d_mo_drop_30 : decode b_mo_drop 30 = .ok (.aload_n 0, 1) := by decide +kernel
theorem d_mo_drop_31 : decode b_mo_drop 31 = .ok (.getfield 17, 3) := by decide +kernel
theorem d_mo_drop_34 : decode b_mo_drop 34 = .ok (.bipush 31, 2) := by decide +kernel
theorem d_mo_drop_36 : decode b_mo_drop 36 = .ok (.iload_n 1, 1) := by decide +kernel
theorem d_mo_drop_37 : decode b_mo_drop 37 = .ok (.imul, 1) := by decide +kernel
theorem d_mo_drop_38 : decode b_mo_drop 38 = .ok (.iload_n 3, 1) := by decide +kernel
theorem d_mo_drop_39 : decode b_mo_drop 39 = .ok (.iadd, 1) := by decide +kernel
theorem d_mo_drop_40 : decode b_mo_drop 40 = .ok (.baload, 1) := by decide +kernel
theorem d_mo_drop_41 : decode b_mo_drop 41 = .ok (.ifCond .eq 12, 3) := by decide +kernel
theorem d_mo_drop_44 : decode b_mo_drop 44 = .ok (.aload_n 0, 1) := by decide +kernel
theorem d_mo_drop_45 : decode b_mo_drop 45 = .ok (.iload_n 3, 1) := by decide +kernel
theorem d_mo_drop_46 : decode b_mo_drop 46 = .ok (.invokevirtual 67, 3) := by decide +kernel
theorem d_mo_drop_49 : decode b_mo_drop 49 = .ok (.iconst 1, 1) := by decide +kernel
theorem d_mo_drop_50 : decode b_mo_drop 50 = .ok (.if_icmp .le 7, 3) := by decide +kernel
theorem d_mo_drop_53 : decode b_mo_drop 53 = .ok (.iconst 1, 1) := by decide +kernel
theorem d_mo_drop_54 : decode b_mo_drop 54 = .ok (.goto 4, 3) := by decide +kernel
theorem d_mo_drop_57 : decode b_mo_drop 57 = .ok (.iconst 0, 1) := by decide +kernel
theorem d_mo_drop_58 : decode b_mo_drop 58 = .ok (.istore_n 2, 1) := by decide +kernel
theorem d_mo_drop_59 : decode b_mo_drop 59 = .ok (.iinc 3 1, 3) := by decide +kernel
theorem d_mo_drop_62 : decode b_mo_drop 62 = .ok (.goto (-42), 3) := by decide +kernel
theorem d_mo_drop_65 : decode b_mo_drop 65 = .ok (.aload_n 0, 1) := by decide +kernel
theorem d_mo_drop_66 : decode b_mo_drop 66 = .ok (.getfield 20, 3) := by decide +kernel
theorem d_mo_drop_69 : decode b_mo_drop 69 = .ok (.iload_n 1, 1) := by decide +kernel
theorem d_mo_drop_70 : decode b_mo_drop 70 = .ok (.aload_n 0, 1) := by decide +kernel
theorem d_mo_drop_71 : decode b_mo_drop 71 = .ok (.getfield 20, 3) := by decide +kernel
theorem d_mo_drop_74 : decode b_mo_drop 74 = .ok (.iload_n 1, 1) := by decide +kernel
theorem d_mo_drop_75 : decode b_mo_drop 75 = .ok (.baload, 1) := by decide +kernel
theorem d_mo_drop_76 : decode b_mo_drop 76 = .ok (.ifCond .ne 7, 3) := by decide +kernel
theorem d_mo_drop_79 : decode b_mo_drop 79 = .ok (.iload_n 2, 1) := by decide +kernel
theorem d_mo_drop_80 : decode b_mo_drop 80 = .ok (.ifCond .eq 7, 3) := by decide +kernel
theorem d_mo_drop_83 : decode b_mo_drop 83 = .ok (.iconst 1, 1) := by decide +kernel
theorem d_mo_drop_84 : decode b_mo_drop 84 = .ok (.goto 4, 3) := by decide +kernel
theorem d_mo_drop_87 : decode b_mo_drop 87 = .ok (.iconst 0, 1) := by decide +kernel
theorem d_mo_drop_88 : decode b_mo_drop 88 = .ok (.bastore, 1) := by decide +kernel
theorem d_mo_drop_89 : decode b_mo_drop 89 = .ok (.iinc 1 (-1), 3) := by decide +kernel
theorem d_mo_drop_92 : decode b_mo_drop 92 = .ok (.goto (-80), 3) := by decide +kernel
theorem d_mo_drop_95 : decode b_mo_drop 95 = .ok (.aload_n 0, 1) := by decide +kernel
theorem d_mo_drop_96 : decode b_mo_drop 96 = .ok (.invokevirtual 63, 3) := by decide +kernel
theorem d_mo_drop_99 : decode b_mo_drop 99 = .ok (.ireturn, 1) := by decide +kernel
theorem d_mo_finders_0 : decode b_mo_finders 0 = .ok (.aload_n 0, 1) := by decide +kernel
theorem d_mo_finders_1 : decode b_mo_finders 1 = .ok (.iload_n 1, 1) := by decide +kernel
theorem d_mo_finders_2 : decode b_mo_finders 2 = .ok (.ifCond .lt 13, 3) := by decide +kernel
theorem d_mo_finders_5 : decode b_mo_finders 5 = .ok (.iload_n 1, 1) := by decide +kernel
theorem d_mo_finders_6 : decode b_mo_finders 6 = .ok (.bipush 31, 2) := by decide +kernel
theorem d_mo_finders_8 : decode b_mo_finders 8 = .ok (.if_icmp .ge 7, 3) := by decide +kernel
theorem d_mo_finders_11 : decode b_mo_finders 11 = .ok (.iconst 0, 1) := by decide +kernel
theorem d_mo_finders_12 : decode b_mo_finders 12 = .ok (.goto 4, 3) := by decide +kernel
theorem d_mo_finders_15 : decode b_mo_finders 15 = .ok (.iconst 1, 1) := by decide +kernel
theorem d_mo_finders_16 : decode b_mo_finders 16 = .ok (.putfield 42, 3) := by decide +kernel
theorem d_mo_finders_19 : decode b_mo_finders 19 = .ok (.aload_n 0, 1) := by decide +kernel
theorem d_mo_finders_20 : decode b_mo_finders 20 = .ok (.getfield 42, 3) := by decide +kernel
theorem d_mo_finders_23 : decode b_mo_finders 23 = .ok (.ifCond .le 7, 3) := by decide +kernel
theorem d_mo_finders_26 : decode b_mo_finders 26 = .ok (.iconst 0, 1) := by decide +kernel
theorem d_mo_finders_27 : decode b_mo_finders 27 = .ok (.goto 8, 3) := by decide +kernel
theorem d_mo_finders_30 : decode b_mo_finders 30 = .ok (.aload_n 0, 1) := by decide +kernel
theorem d_mo_finders_31 : decode b_mo_finders 31 = .ok (.iload_n 1, 1) := by decide +kernel
theorem d_mo_finders_32 : decode b_mo_finders 32 = .ok (.invokevirtual 67, 3) := by decide +kernel
theorem d_mo_finders_35 : decode b_mo_finders 35 = .ok (.ireturn, 1) := by decide +kernel
theorem d_mo_noSeeds_0 : decode b_mo_noSeeds 0 = .ok (.iconst 0, 1) := by decide +kernel
theorem d_mo_noSeeds_1 : decode b_mo_noSeeds 1 = .ok (.istore_n 1, 1) := by decide +kernel
theorem d_mo_noSeeds_2 : decode b_mo_noSeeds 2 = .ok (.iload_n 1, 1) := by decide +kernel
theorem d_mo_noSeeds_3 : decode b_mo_noSeeds 3 = .ok (.aload_n 0, 1) := by decide +kernel
theorem d_mo_noSeeds_4 : decode b_mo_noSeeds 4 = .ok (.getfield 45, 3) := by decide +kernel
theorem d_mo_noSeeds_7 : decode b_mo_noSeeds 7 = .ok (.if_icmp .ge 16, 3) := by decide +kernel
theorem d_mo_noSeeds_10 : decode b_mo_noSeeds 10 = .ok (.aload_n 0, 1) := by decide +kernel
theorem d_mo_noSeeds_11 : decode b_mo_noSeeds 11 = .ok (.getfield 23, 3) := by decide +kernel
theorem d_mo_noSeeds_14 : decode b_mo_noSeeds 14 = .ok (.iload_n 1, 1) := by decide +kernel
theorem d_mo_noSeeds_15 : decode b_mo_noSeeds 15 = .ok (.iconst (-1), 1) := by decide +kernel
theorem d_mo_noSeeds_16 : decode b_mo_noSeeds 16 = .ok (.iastore, 1) := by decide +kernel
theorem d_mo_noSeeds_17 : decode b_mo_noSeeds 17 = .ok (.iinc 1 1, 3) := by decide +kernel
theorem d_mo_noSeeds_20 : decode b_mo_noSeeds 20 = .ok (.goto (-18), 3) := by decide +kernel
theorem d_mo_noSeeds_23 : decode b_mo_noSeeds 23 = .ok (.return_, 1) := by decide +kernel
theorem d_mo_degree_0 : decode b_mo_degree 0 = .ok (.aload_n 0, 1) := by decide +kernel
theorem d_mo_degree_1 : decode b_mo_degree 1 = .ok (.iload_n 1, 1) := by decide +kernel
theorem d_mo_degree_2 : decode b_mo_degree 2 = .ok (.iconst 1, 1) := by decide +kernel
theorem d_mo_degree_3 : decode b_mo_degree 3 = .ok (.if_icmp .lt 9, 3) := by decide +kernel
theorem d_mo_degree_6 : decode b_mo_degree 6 = .ok (.iload_n 1, 1) := by decide +kernel
theorem d_mo_degree_7 : decode b_mo_degree 7 = .ok (.bipush 16, 2) := by decide +kernel
theorem d_mo_degree_9 : decode b_mo_degree 9 = .ok (.if_icmp .le 7, 3) := by decide +kernel
theorem d_mo_degree_12 : decode b_mo_degree 12 = .ok (.iconst 1, 1) := by decide +kernel
theorem d_mo_degree_13 : decode b_mo_degree 13 = .ok (.goto 4, 3) := by decide +kernel
theorem d_mo_degree_16 : decode b_mo_degree 16 = .ok (.iconst 0, 1) := by decide +kernel
theorem d_mo_degree_17 : decode b_mo_degree 17 = .ok (.putfield 42, 3) := by decide +kernel
theorem d_mo_degree_20 : decode b_mo_degree 20 = .ok (.aload_n 0, 1) := by decide +kernel
theorem d_mo_degree_21 : decode b_mo_degree 21 = .ok (.getfield 42, 3) := by decide +kernel
theorem d_mo_degree_24 : decode b_mo_degree 24 = .ok (.ifCond .le 4, 3) := by decide +kernel
theorem d_mo_degree_27 : decode b_mo_degree 27 = .ok (.return_, 1) := by decide +kernel
theorem d_mo_degree_28 : decode b_mo_degree 28 = .ok (.aload_n 0, 1) := by decide +kernel
theorem d_mo_degree_29 : decode b_mo_degree 29 = .ok (.iload_n 1, 1) := by decide +kernel
theorem d_mo_degree_30 : decode b_mo_degree 30 = .ok (.putfield 39, 3) := by decide +kernel
theorem d_mo_degree_33 : decode b_mo_degree 33 = .ok (.iconst 0, 1) := by decide +kernel
theorem d_mo_degree_34 : decode b_mo_degree 34 = .ok (.istore_n 2, 1) := by decide +kernel
theorem d_mo_degree_35 : decode b_mo_degree 35 = .ok (.iload_n 2, 1) := by decide +kernel
theorem d_mo_degree_36 : decode b_mo_degree 36 = .ok (.bipush 16, 2) := by decide +kernel
theorem d_mo_degree_38 : decode b_mo_degree 38 = .ok (.if_icmp .ge 27, 3) := by decide +kernel
theorem d_mo_degree_41 : decode b_mo_degree 41 = .ok (.aload_n 0, 1) := by decide +kernel
theorem d_mo_degree_42 : decode b_mo_degree 42 = .ok (.getfield 26, 3) := by decide +kernel
theorem d_mo_degree_45 : decode b_mo_degree 45 = .ok (.iload_n 2, 1) := by decide +kernel
theorem d_mo_degree_46 : decode b_mo_degree 46 = .ok (.iload_n 2, 1) := by decide +kernel
theorem d_mo_degree_47 : decode b_mo_degree 47 = .ok (.iload_n 1, 1) := by decide +kernel
theorem d_mo_degree_48 : decode b_mo_degree 48 = .ok (.iconst 1, 1) := by decide +kernel
theorem d_mo_degree_49 : decode b_mo_degree 49 = .ok (.isub, 1) := by decide +kernel
theorem d_mo_degree_50 : decode b_mo_degree 50 = .ok (.if_icmp .ne 7, 3) := by decide +kernel
theorem d_mo_degree_53 : decode b_mo_degree 53 = .ok (.iconst 1, 1) := by decide +kernel
theorem d_mo_degree_54 : decode b_mo_degree 54 = .ok (.goto 4, 3) := by decide +kernel
theorem d_mo_degree_57 : decode b_mo_degree 57 = .ok (.iconst 0, 1) := by decide +kernel
theorem d_mo_degree_58 : decode b_mo_degree 58 = .ok (.bastore, 1) := by decide +kernel
theorem d_mo_degree_59 : decode b_mo_degree 59 = .ok (.iinc 2 1, 3) := by decide +kernel
theorem d_mo_degree_62 : decode b_mo_degree 62 = .ok (.goto (-27), 3) := by decide +kernel
theorem d_mo_degree_65 : decode b_mo_degree 65 = .ok (.aload_n 0, 1) := by decide +kernel
theorem d_mo_degree_66 : decode b_mo_degree 66 = .ok (.invokevirtual 71, 3) := by decide +kernel
theorem d_mo_degree_69 : decode b_mo_degree 69 = .ok (.return_, 1) := by decide +kernel
theorem d_mo_machine_0 : decode b_mo_machine 0 = .ok (.aload_n 0, 1) := by decide +kernel
theorem d_mo_machine_1 : decode b_mo_machine 1 = .ok (.iload_n 1, 1) := by decide +kernel
theorem d_mo_machine_2 : decode b_mo_machine 2 = .ok (.ifCond .lt 11, 3) := by decide +kernel
theorem d_mo_machine_5 : decode b_mo_machine 5 = .ok (.iload_n 1, 1) := by decide +kernel
theorem d_mo_machine_6 : decode b_mo_machine 6 = .ok (.aload_n 0, 1) := by decide +kernel
theorem d_mo_machine_7 : decode b_mo_machine 7 = .ok (.getfield 39, 3) := by decide +kernel
theorem d_mo_machine_10 : decode b_mo_machine 10 = .ok (.if_icmp .lt 7, 3) := by decide +kernel
theorem d_mo_machine_13 : decode b_mo_machine 13 = .ok (.iconst 1, 1) := by decide +kernel
theorem d_mo_machine_14 : decode b_mo_machine 14 = .ok (.goto 22, 3) := by decide +kernel
theorem d_mo_machine_17 : decode b_mo_machine 17 = .ok (.iload_n 1, 1) := by decide +kernel
theorem d_mo_machine_18 : decode b_mo_machine 18 = .ok (.aload_n 0, 1) := by decide +kernel
theorem d_mo_machine_19 : decode b_mo_machine 19 = .ok (.getfield 39, 3) := by decide +kernel
theorem d_mo_machine_22 : decode b_mo_machine 22 = .ok (.iconst 1, 1) := by decide +kernel
theorem d_mo_machine_23 : decode b_mo_machine 23 = .ok (.isub, 1) := by decide +kernel
theorem d_mo_machine_24 : decode b_mo_machine 24 = .ok (.if_icmp .ne 11, 3) := by decide +kernel
theorem d_mo_machine_27 : decode b_mo_machine 27 = .ok (.iload_n 2, 1) := by decide +kernel
theorem d_mo_machine_28 : decode b_mo_machine 28 = .ok (.ifCond .ne 7, 3) := by decide +kernel
theorem d_mo_machine_31 : decode b_mo_machine 31 = .ok (.iconst 2, 1) := by decide +kernel
theorem d_mo_machine_32 : decode b_mo_machine 32 = .ok (.goto 4, 3) := by decide +kernel
theorem d_mo_machine_35 : decode b_mo_machine 35 = .ok (.iconst 0, 1) := by decide +kernel
theorem d_mo_machine_36 : decode b_mo_machine 36 = .ok (.putfield 42, 3) := by decide +kernel
theorem d_mo_machine_39 : decode b_mo_machine 39 = .ok (.aload_n 0, 1) := by decide +kernel
theorem d_mo_machine_40 : decode b_mo_machine 40 = .ok (.getfield 42, 3) := by decide +kernel
theorem d_mo_machine_43 : decode b_mo_machine 43 = .ok (.ifCond .gt 13, 3) := by decide +kernel
theorem d_mo_machine_46 : decode b_mo_machine 46 = .ok (.aload_n 0, 1) := by decide +kernel
theorem d_mo_machine_47 : decode b_mo_machine 47 = .ok (.getfield 26, 3) := by decide +kernel
theorem d_mo_machine_50 : decode b_mo_machine 50 = .ok (.iload_n 1, 1) := by decide +kernel
theorem d_mo_machine_51 : decode b_mo_machine 51 = .ok (.baload, 1) := by decide +kernel
theorem d_mo_machine_52 : decode b_mo_machine 52 = .ok (.iload_n 2, 1) := by decide +kernel
theorem d_mo_machine_53 : decode b_mo_machine 53 = .ok (.if_icmp .ne 5, 3) := by decide +kernel
theorem d_mo_machine_56 : decode b_mo_machine 56 = .ok (.iconst 0, 1) := by decide +kernel
theorem d_mo_machine_57 : decode b_mo_machine 57 = .ok (.ireturn, 1) := by decide +kernel
theorem d_mo_machine_58 : decode b_mo_machine 58 = .ok (.aload_n 0, 1) := by decide +kernel
theorem d_mo_machine_59 : decode b_mo_machine 59 = .ok (.getfield 26, 3) := by decide +kernel
theorem d_mo_machine_62 : decode b_mo_machine 62 = .ok (.iload_n 1, 1) := by decide +kernel
theorem d_mo_machine_63 : decode b_mo_machine 63 = .ok (.iload_n 2, 1) := by decide +kernel
theorem d_mo_machine_64 : decode b_mo_machine 64 = .ok (.bastore, 1) := by decide +kernel
theorem d_mo_machine_65 : decode b_mo_machine 65 = .ok (.aload_n 0, 1) := by decide +kernel
theorem d_mo_machine_66 : decode b_mo_machine 66 = .ok (.invokevirtual 71, 3) := by decide +kernel
theorem d_mo_machine_69 : decode b_mo_machine 69 = .ok (.iconst 1, 1) := by decide +kernel
theorem d_mo_machine_70 : decode b_mo_machine 70 = .ok (.ireturn, 1) := by decide +kernel
theorem d_mo_step_0 : decode b_mo_step 0 = .ok (.iconst 0, 1) := by decide +kernel
theorem d_mo_step_1 : decode b_mo_step 1 = .ok (.istore_n 2, 1) := by decide +kernel
theorem d_mo_step_2 : decode b_mo_step 2 = .ok (.iconst 0, 1) := by decide +kernel
theorem d_mo_step_3 : decode b_mo_step 3 = .ok (.istore_n 3, 1) := by decide +kernel
theorem d_mo_step_4 : decode b_mo_step 4 = .ok (.iload_n 3, 1) := by decide +kernel
theorem d_mo_step_5 : decode b_mo_step 5 = .ok (.aload_n 0, 1) := by decide +kernel
theorem d_mo_step_6 : decode b_mo_step 6 = .ok (.getfield 39, 3) := by decide +kernel
theorem d_mo_step_9 : decode b_mo_step 9 = .ok (.if_icmp .ge 30, 3) := by decide +kernel
theorem d_mo_step_12 : decode b_mo_step 12 = .ok (.aload_n 0, 1) := by decide +kernel
theorem d_mo_step_13 : decode b_mo_step 13 = .ok (.getfield 26, 3) := by decide +kernel
theorem d_mo_step_16 : decode b_mo_step 16 = .ok (.iload_n 3, 1) := by decide +kernel
theorem d_mo_step_17 : decode b_mo_step 17 = .ok (.baload, 1) := by decide +kernel
theorem d_mo_step_18 : decode b_mo_step 18 = .ok (.ifCond .eq 13, 3) := by decide +kernel
theorem d_mo_step_21 : decode b_mo_step 21 = .ok (.iload_n 2, 1) := by decide +kernel
theorem d_mo_step_22 : decode b_mo_step 22 = .ok (.iload_n 1, 1) := by decide +kernel
theorem d_mo_step_23 : decode b_mo_step 23 = .ok (.iload_n 3, 1) := by decide +kernel
theorem d_mo_step_24 : decode b_mo_step 24 = .ok (.ishr, 1) := by decide +kernel
theorem d_mo_step_25 : decode b_mo_step 25 = .ok (.iconst 1, 1) := by decide +kernel
theorem d_mo_step_26 : decode b_mo_step 26 = .ok (.iand, 1) := by decide +kernel
theorem d_mo_step_27 : decode b_mo_step 27 = .ok (.ixor, 1) := by decide +kernel
theorem d_mo_step_28 : decode b_mo_step 28 = .ok (.goto 4, 3) := by decide +kernel
theorem d_mo_step_31 : decode b_mo_step 31 = .ok (.iload_n 2, 1) := by decide +kernel
theorem d_mo_step_32 : decode b_mo_step 32 = .ok (.istore_n 2, 1) := by decide +kernel
theorem d_mo_step_33 : decode b_mo_step 33 = .ok (.iinc 3 1, 3) := by decide +kernel
theorem d_mo_step_36 : decode b_mo_step 36 = .ok (.goto (-32), 3) := by decide +kernel
theorem d_mo_step_39 : decode b_mo_step 39 = .ok (.iload_n 1, 1) := by decide +kernel
theorem d_mo_step_40 : decode b_mo_step 40 = .ok (.iconst 1, 1) := by decide +kernel
theorem d_mo_step_41 : decode b_mo_step 41 = .ok (.ishl, 1) := by decide +kernel
theorem d_mo_step_42 : decode b_mo_step 42 = .ok (.iload_n 2, 1) := by decide +kernel
theorem d_mo_step_43 : decode b_mo_step 43 = .ok (.ior, 1) := by decide +kernel
theorem d_mo_step_44 : decode b_mo_step 44 = .ok (.iconst 1, 1) := by decide +kernel
theorem d_mo_step_45 : decode b_mo_step 45 = .ok (.aload_n 0, 1) := by decide +kernel
theorem d_mo_step_46 : decode b_mo_step 46 = .ok (.getfield 39, 3) := by decide +kernel
theorem d_mo_step_49 : decode b_mo_step 49 = .ok (.ishl, 1) := by decide +kernel
theorem d_mo_step_50 : decode b_mo_step 50 = .ok (.iconst 1, 1) := by decide +kernel
theorem d_mo_step_51 : decode b_mo_step 51 = .ok (.isub, 1) := by decide +kernel
theorem d_mo_step_52 : decode b_mo_step 52 = .ok (.iand, 1) := by decide +kernel
theorem d_mo_step_53 : decode b_mo_step 53 = .ok (.ireturn, 1) := by decide +kernel
theorem d_mo_brought_0 : decode b_mo_brought 0 = .ok (.iload_n 1, 1) := by decide +kernel
theorem d_mo_brought_1 : decode b_mo_brought 1 = .ok (.istore 4, 2) := by decide +kernel
theorem d_mo_brought_3 : decode b_mo_brought 3 = .ok (.iconst 0, 1) := by decide +kernel
theorem d_mo_brought_4 : decode b_mo_brought 4 = .ok (.istore 5, 2) := by decide +kernel
theorem d_mo_brought_6 : decode b_mo_brought 6 = .ok (.iload 5, 2) := by decide +kernel
theorem d_mo_brought_8 : decode b_mo_brought 8 = .ok (.aload_n 0, 1) := by decide +kernel
theorem d_mo_brought_9 : decode b_mo_brought 9 = .ok (.getfield 36, 3) := by decide +kernel
theorem d_mo_brought_12 : decode b_mo_brought 12 = .ok (.iconst 1, 1) := by decide +kernel
theorem d_mo_brought_13 : decode b_mo_brought 13 = .ok (.isub, 1) := by decide +kernel
theorem d_mo_brought_14 : decode b_mo_brought 14 = .ok (.iload_n 3, 1) := by decide +kernel
theorem d_mo_brought_15 : decode b_mo_brought 15 = .ok (.isub, 1) := by decide +kernel
theorem d_mo_brought_16 : decode b_mo_brought 16 = .ok (.if_icmp .ge 17, 3) := by decide +kernel
theorem d_mo_brought_19 : decode b_mo_brought 19 = .ok (.aload_n 0, 1) := by decide +kernel
theorem d_mo_brought_20 : decode b_mo_brought 20 = .ok (.iload 4, 2) := by decide +kernel
theorem d_mo_brought_22 : decode b_mo_brought 22 = .ok (.invokevirtual 74, 3) := by decide +kernel
theorem d_mo_brought_25 : decode b_mo_brought 25 = .ok (.istore 4, 2) := by decide +kernel
theorem d_mo_brought_27 : decode b_mo_brought 27 = .ok (.iinc 5 1, 3) := by decide +kernel
theorem d_mo_brought_30 : decode b_mo_brought 30 = .ok (.goto (-24), 3) := by decide +kernel
theorem d_mo_brought_33 : decode b_mo_brought 33 = .ok (.iload 4, 2) := by decide +kernel
theorem d_mo_brought_35 : decode b_mo_brought 35 = .ok (.iconst 5, 1) := by decide +kernel
theorem d_mo_brought_36 : decode b_mo_brought 36 = .ok (.iload_n 2, 1) := by decide +kernel
theorem d_mo_brought_37 : decode b_mo_brought 37 = .ok (.imul, 1) := by decide +kernel
theorem d_mo_brought_38 : decode b_mo_brought 38 = .ok (.iconst 1, 1) := by decide +kernel
theorem d_mo_brought_39 : decode b_mo_brought 39 = .ok (.iadd, 1) := by decide +kernel
theorem d_mo_brought_40 : decode b_mo_brought 40 = .ok (.aload_n 0, 1) := by decide +kernel
theorem d_mo_brought_41 : decode b_mo_brought 41 = .ok (.getfield 39, 3) := by decide +kernel
theorem d_mo_brought_44 : decode b_mo_brought 44 = .ok (.irem, 1) := by decide +kernel
theorem d_mo_brought_45 : decode b_mo_brought 45 = .ok (.ishr, 1) := by decide +kernel
theorem d_mo_brought_46 : decode b_mo_brought 46 = .ok (.iconst 1, 1) := by decide +kernel
theorem d_mo_brought_47 : decode b_mo_brought 47 = .ok (.iand, 1) := by decide +kernel
theorem d_mo_brought_48 : decode b_mo_brought 48 = .ok (.ireturn, 1) := by decide +kernel
theorem d_mo_makes_0 : decode b_mo_makes 0 = .ok (.iload_n 1, 1) := by decide +kernel
theorem d_mo_makes_1 : decode b_mo_makes 1 = .ok (.istore_n 3, 1) := by decide +kernel
theorem d_mo_makes_2 : decode b_mo_makes 2 = .ok (.aload_n 0, 1) := by decide +kernel
theorem d_mo_makes_3 : decode b_mo_makes 3 = .ok (.getfield 36, 3) := by decide +kernel
theorem d_mo_makes_6 : decode b_mo_makes 6 = .ok (.iconst 1, 1) := by decide +kernel
theorem d_mo_makes_7 : decode b_mo_makes 7 = .ok (.isub, 1) := by decide +kernel
theorem d_mo_makes_8 : decode b_mo_makes 8 = .ok (.istore 4, 2) := by decide +kernel
theorem d_mo_makes_10 : decode b_mo_makes 10 = .ok (.iload 4, 2) := by decide +kernel
theorem d_mo_makes_12 : decode b_mo_makes 12 = .ok (.ifCond .lt 77, 3) := by decide +kernel
theorem d_mo_makes_15 : decode b_mo_makes 15 = .ok (.iconst 0, 1) := by decide +kernel
theorem d_mo_makes_16 : decode b_mo_makes 16 = .ok (.istore 5, 2) := by decide +kernel
theorem d_mo_makes_18 : decode b_mo_makes 18 = .ok (.iload 5, 2) := by decide +kernel
theorem d_mo_makes_20 : decode b_mo_makes 20 = .ok (.aload_n 0, 1) := by decide +kernel
theorem d_mo_makes_21 : decode b_mo_makes 21 = .ok (.getfield 32, 3) := by decide +kernel
theorem d_mo_makes_24 : decode b_mo_makes 24 = .ok (.if_icmp .ge 53, 3) := by decide +kernel
theorem d_mo_makes_27 : decode b_mo_makes 27 = .ok (.aload_n 0, 1) := by decide +kernel
theorem d_mo_makes_28 : decode b_mo_makes 28 = .ok (.getfield 7, 3) := by decide +kernel
theorem d_mo_makes_31 : decode b_mo_makes 31 = .ok (.aload_n 0, 1) := by decide +kernel
theorem d_mo_makes_32 : decode b_mo_makes 32 = .ok (.iload_n 2, 1) := by decide +kernel
theorem d_mo_makes_33 : decode b_mo_makes 33 = .ok (.iload 5, 2) := by decide +kernel
theorem d_mo_makes_35 : decode b_mo_makes 35 = .ok (.iload 4, 2) := by decide +kernel
theorem d_mo_makes_37 : decode b_mo_makes 37 = .ok (.invokevirtual 56, 3) := by decide +kernel
theorem d_mo_makes_40 : decode b_mo_makes 40 = .ok (.iaload, 1) := by decide +kernel
theorem d_mo_makes_41 : decode b_mo_makes 41 = .ok (.istore 6, 2) := by decide +kernel
theorem d_mo_makes_43 : decode b_mo_makes 43 = .ok (.iload 6, 2) := by decide +kernel
theorem d_mo_makes_45 : decode b_mo_makes 45 = .ok (.iconst (-1), 1) := by decide +kernel
theorem d_mo_makes_46 : decode b_mo_makes 46 = .ok (.if_icmp .eq 25, 3) := by decide +kernel
theorem d_mo_makes_49 : decode b_mo_makes 49 = .ok (.iload 6, 2) := by decide +kernel
theorem d_mo_makes_51 : decode b_mo_makes 51 = .ok (.iload_n 3, 1) := by decide +kernel
theorem d_mo_makes_52 : decode b_mo_makes 52 = .ok (.iconst 5, 1) := by decide +kernel
theorem d_mo_makes_53 : decode b_mo_makes 53 = .ok (.iload 5, 2) := by decide +kernel
theorem d_mo_makes_55 : decode b_mo_makes 55 = .ok (.imul, 1) := by decide +kernel
theorem d_mo_makes_56 : decode b_mo_makes 56 = .ok (.iconst 1, 1) := by decide +kernel
theorem d_mo_makes_57 : decode b_mo_makes 57 = .ok (.iadd, 1) := by decide +kernel
theorem d_mo_makes_58 : decode b_mo_makes 58 = .ok (.aload_n 0, 1) := by decide +kernel
theorem d_mo_makes_59 : decode b_mo_makes 59 = .ok (.getfield 39, 3) := by decide +kernel
theorem d_mo_makes_62 : decode b_mo_makes 62 = .ok (.irem, 1) := by decide +kernel
theorem d_mo_makes_63 : decode b_mo_makes 63 = .ok (.ishr, 1) := by decide +kernel
theorem d_mo_makes_64 : decode b_mo_makes 64 = .ok (.iconst 1, 1) := by decide +kernel
theorem d_mo_makes_65 : decode b_mo_makes 65 = .ok (.iand, 1) := by decide +kernel
theorem d_mo_makes_66 : decode b_mo_makes 66 = .ok (.if_icmp .eq 5, 3) := by decide +kernel
theorem d_mo_makes_69 : decode b_mo_makes 69 = .ok (.iconst 0, 1) := by decide +kernel
theorem d_mo_makes_70 : decode b_mo_makes 70 = .ok (.ireturn, 1) := by decide +kernel
theorem d_mo_makes_71 : decode b_mo_makes 71 = .ok (.iinc 5 1, 3) := by decide +kernel
theorem d_mo_makes_74 : decode b_mo_makes 74 = .ok (.goto (-56), 3) := by decide +kernel
theorem d_mo_makes_77 : decode b_mo_makes 77 = .ok (.aload_n 0, 1) := by decide +kernel
theorem d_mo_makes_78 : decode b_mo_makes 78 = .ok (.iload_n 3, 1) := by decide +kernel
theorem d_mo_makes_79 : decode b_mo_makes 79 = .ok (.invokevirtual 74, 3) := by decide +kernel
theorem d_mo_makes_82 : decode b_mo_makes 82 = .ok (.istore_n 3, 1) := by decide +kernel
theorem d_mo_makes_83 : decode b_mo_makes 83 = .ok (.iinc 4 (-1), 3) := by decide +kernel
theorem d_mo_makes_86 : decode b_mo_makes 86 = .ok (.goto (-76), 3) := by decide +kernel
theorem d_mo_makes_89 : decode b_mo_makes 89 = .ok (.iconst 1, 1) := by decide +kernel
theorem d_mo_makes_90 : decode b_mo_makes 90 = .ok (.ireturn, 1) := by decide +kernel
theorem d_mo_seed_0 : decode b_mo_seed 0 = .ok (.aload_n 0, 1) := by decide +kernel
theorem d_mo_seed_1 : decode b_mo_seed 1 = .ok (.aload_n 0, 1) := by decide +kernel
theorem d_mo_seed_2 : decode b_mo_seed 2 = .ok (.iload_n 1, 1) := by decide +kernel
theorem d_mo_seed_3 : decode b_mo_seed 3 = .ok (.invokevirtual 48, 3) := by decide +kernel
theorem d_mo_seed_6 : decode b_mo_seed 6 = .ok (.ifCond .eq 7, 3) := by decide +kernel
theorem d_mo_seed_9 : decode b_mo_seed 9 = .ok (.iconst 0, 1) := by decide +kernel
theorem d_mo_seed_10 : decode b_mo_seed 10 = .ok (.goto 4, 3) := by decide +kernel
theorem d_mo_seed_13 : decode b_mo_seed 13 = .ok (.iconst 1, 1) := by decide +kernel
theorem d_mo_seed_14 : decode b_mo_seed 14 = .ok (.putfield 42, 3) := by decide +kernel
theorem d_mo_seed_17 : decode b_mo_seed 17 = .ok (.aload_n 0, 1) := by decide +kernel
theorem d_mo_seed_18 : decode b_mo_seed 18 = .ok (.getfield 42, 3) := by decide +kernel
theorem d_mo_seed_21 : decode b_mo_seed 21 = .ok (.ifCond .le 5, 3) := by decide +kernel
theorem d_mo_seed_24 : decode b_mo_seed 24 = .ok (.iconst 0, 1) := by decide +kernel
theorem d_mo_seed_25 : decode b_mo_seed 25 = .ok (.ireturn, 1) := by decide +kernel
theorem d_mo_seed_26 : decode b_mo_seed 26 = .ok (.aload_n 0, 1) := by decide +kernel
theorem d_mo_seed_27 : decode b_mo_seed 27 = .ok (.getfield 23, 3) := by decide +kernel
theorem d_mo_seed_30 : decode b_mo_seed 30 = .ok (.iload_n 1, 1) := by decide +kernel
theorem d_mo_seed_31 : decode b_mo_seed 31 = .ok (.iconst (-1), 1) := by decide +kernel
theorem d_mo_seed_32 : decode b_mo_seed 32 = .ok (.iastore, 1) := by decide +kernel
theorem d_mo_seed_33 : decode b_mo_seed 33 = .ok (.iconst 0, 1) := by decide +kernel
theorem d_mo_seed_34 : decode b_mo_seed 34 = .ok (.istore_n 2, 1) := by decide +kernel
theorem d_mo_seed_35 : decode b_mo_seed 35 = .ok (.iload_n 2, 1) := by decide +kernel
theorem d_mo_seed_36 : decode b_mo_seed 36 = .ok (.iconst 1, 1) := by decide +kernel
theorem d_mo_seed_37 : decode b_mo_seed 37 = .ok (.aload_n 0, 1) := by decide +kernel
theorem d_mo_seed_38 : decode b_mo_seed 38 = .ok (.getfield 39, 3) := by decide +kernel
theorem d_mo_seed_41 : decode b_mo_seed 41 = .ok (.ishl, 1) := by decide +kernel
theorem d_mo_seed_42 : decode b_mo_seed 42 = .ok (.if_icmp .ge 39, 3) := by decide +kernel
theorem d_mo_seed_45 : decode b_mo_seed 45 = .ok (.aload_n 0, 1) := by decide +kernel
theorem d_mo_seed_46 : decode b_mo_seed 46 = .ok (.getfield 23, 3) := by decide +kernel
theorem d_mo_seed_49 : decode b_mo_seed 49 = .ok (.iload_n 1, 1) := by decide +kernel
theorem d_mo_seed_50 : decode b_mo_seed 50 = .ok (.iaload, 1) := by decide +kernel
theorem d_mo_seed_51 : decode b_mo_seed 51 = .ok (.iconst (-1), 1) := by decide +kernel
theorem d_mo_seed_52 : decode b_mo_seed 52 = .ok (.if_icmp .ne 29, 3) := by decide +kernel
theorem d_mo_seed_55 : decode b_mo_seed 55 = .ok (.aload_n 0, 1) := by decide +kernel
theorem d_mo_seed_56 : decode b_mo_seed 56 = .ok (.getfield 23, 3) := by decide +kernel
theorem d_mo_seed_59 : decode b_mo_seed 59 = .ok (.iload_n 1, 1) := by decide +kernel
theorem d_mo_seed_60 : decode b_mo_seed 60 = .ok (.aload_n 0, 1) := by decide +kernel
theorem d_mo_seed_61 : decode b_mo_seed 61 = .ok (.iload_n 2, 1) := by decide +kernel
theorem d_mo_seed_62 : decode b_mo_seed 62 = .ok (.iload_n 1, 1) := by decide +kernel
theorem d_mo_seed_63 : decode b_mo_seed 63 = .ok (.invokevirtual 77, 3) := by decide +kernel
theorem d_mo_seed_66 : decode b_mo_seed 66 = .ok (.ifCond .eq 7, 3) := by decide +kernel
theorem d_mo_seed_69 : decode b_mo_seed 69 = .ok (.iload_n 2, 1) := by decide +kernel
theorem d_mo_seed_70 : decode b_mo_seed 70 = .ok (.goto 4, 3) := by decide +kernel
theorem d_mo_seed_73 : decode b_mo_seed 73 = .ok (.iconst (-1), 1) := by decide +kernel
theorem d_mo_seed_74 : decode b_mo_seed 74 = .ok (.iastore, 1) := by decide +kernel
theorem d_mo_seed_75 : decode b_mo_seed 75 = .ok (.iinc 2 1, 3) := by decide +kernel
theorem d_mo_seed_78 : decode b_mo_seed 78 = .ok (.goto (-43), 3) := by decide +kernel
theorem d_mo_seed_81 : decode b_mo_seed 81 = .ok (.aload_n 0, 1) := by decide +kernel
theorem d_mo_seed_82 : decode b_mo_seed 82 = .ok (.getfield 23, 3) := by decide +kernel
theorem d_mo_seed_85 : decode b_mo_seed 85 = .ok (.iload_n 1, 1) := by decide +kernel
theorem d_mo_seed_86 : decode b_mo_seed 86 = .ok (.iaload, 1) := by decide +kernel
theorem d_mo_seed_87 : decode b_mo_seed 87 = .ok (.iconst (-1), 1) := by decide +kernel
theorem d_mo_seed_88 : decode b_mo_seed 88 = .ok (.if_icmp .ne 7, 3) := by decide +kernel
theorem d_mo_seed_91 : decode b_mo_seed 91 = .ok (.iconst 1, 1) := by decide +kernel
theorem d_mo_seed_92 : decode b_mo_seed 92 = .ok (.goto 4, 3) := by decide +kernel
theorem d_mo_seed_95 : decode b_mo_seed 95 = .ok (.iconst 0, 1) := by decide +kernel
theorem d_mo_seed_96 : decode b_mo_seed 96 = .ok (.ireturn, 1) := by decide +kernel
theorem d_mo_seedOf_0 : decode b_mo_seedOf 0 = .ok (.aload_n 0, 1) := by decide +kernel
theorem d_mo_seedOf_1 : decode b_mo_seedOf 1 = .ok (.aload_n 0, 1) := by decide +kernel
theorem d_mo_seedOf_2 : decode b_mo_seedOf 2 = .ok (.iload_n 1, 1) := by decide +kernel
theorem d_mo_seedOf_3 : decode b_mo_seedOf 3 = .ok (.invokevirtual 48, 3) := by decide +kernel
theorem d_mo_seedOf_6 : decode b_mo_seedOf 6 = .ok (.ifCond .eq 7, 3) := by decide +kernel
theorem d_mo_seedOf_9 : decode b_mo_seedOf 9 = .ok (.iconst 0, 1) := by decide +kernel
theorem d_mo_seedOf_10 : decode b_mo_seedOf 10 = .ok (.goto 4, 3) := by decide +kernel
theorem d_mo_seedOf_13 : decode b_mo_seedOf 13 = .ok (.iconst 1, 1) := by decide +kernel
theorem d_mo_seedOf_14 : decode b_mo_seedOf 14 = .ok (.putfield 42, 3) := by decide +kernel
theorem d_mo_seedOf_17 : decode b_mo_seedOf 17 = .ok (.aload_n 0, 1) := by decide +kernel
theorem d_mo_seedOf_18 : decode b_mo_seedOf 18 = .ok (.getfield 42, 3) := by decide +kernel
theorem d_mo_seedOf_21 : decode b_mo_seedOf 21 = .ok (.ifCond .le 7, 3) := by decide +kernel
theorem d_mo_seedOf_24 : decode b_mo_seedOf 24 = .ok (.iconst 0, 1) := by decide +kernel
theorem d_mo_seedOf_25 : decode b_mo_seedOf 25 = .ok (.goto 9, 3) := by decide +kernel
theorem d_mo_seedOf_28 : decode b_mo_seedOf 28 = .ok (.aload_n 0, 1) := by decide +kernel
theorem d_mo_seedOf_29 : decode b_mo_seedOf 29 = .ok (.getfield 23, 3) := by decide +kernel
theorem d_mo_seedOf_32 : decode b_mo_seedOf 32 = .ok (.iload_n 1, 1) := by decide +kernel
theorem d_mo_seedOf_33 : decode b_mo_seedOf 33 = .ok (.iaload, 1) := by decide +kernel
theorem d_mo_seedOf_34 : decode b_mo_seedOf 34 = .ok (.ireturn, 1) := by decide +kernel
theorem d_mo_bitOf_0 : decode b_mo_bitOf 0 = .ok (.aload_n 0, 1) := by decide +kernel
theorem d_mo_bitOf_1 : decode b_mo_bitOf 1 = .ok (.getfield 23, 3) := by decide +kernel
theorem d_mo_bitOf_4 : decode b_mo_bitOf 4 = .ok (.iload_n 1, 1) := by decide +kernel
theorem d_mo_bitOf_5 : decode b_mo_bitOf 5 = .ok (.iaload, 1) := by decide +kernel
theorem d_mo_bitOf_6 : decode b_mo_bitOf 6 = .ok (.iconst (-1), 1) := by decide +kernel
theorem d_mo_bitOf_7 : decode b_mo_bitOf 7 = .ok (.if_icmp .eq 16, 3) := by decide +kernel
theorem d_mo_bitOf_10 : decode b_mo_bitOf 10 = .ok (.aload_n 0, 1) := by decide +kernel
theorem d_mo_bitOf_11 : decode b_mo_bitOf 11 = .ok (.aload_n 0, 1) := by decide +kernel
theorem d_mo_bitOf_12 : decode b_mo_bitOf 12 = .ok (.getfield 23, 3) := by decide +kernel
theorem d_mo_bitOf_15 : decode b_mo_bitOf 15 = .ok (.iload_n 1, 1) := by decide +kernel
theorem d_mo_bitOf_16 : decode b_mo_bitOf 16 = .ok (.iaload, 1) := by decide +kernel
theorem d_mo_bitOf_17 : decode b_mo_bitOf 17 = .ok (.iload_n 2, 1) := by decide +kernel
theorem d_mo_bitOf_18 : decode b_mo_bitOf 18 = .ok (.iload_n 3, 1) := by decide +kernel
theorem d_mo_bitOf_19 : decode b_mo_bitOf 19 = .ok (.invokevirtual 80, 3) := by decide +kernel
theorem d_mo_bitOf_22 : decode b_mo_bitOf 22 = .ok (.ireturn, 1) := by decide +kernel
theorem d_mo_bitOf_23 : decode b_mo_bitOf 23 = .ok (.aload_n 0, 1) := by decide +kernel
theorem d_mo_bitOf_24 : decode b_mo_bitOf 24 = .ok (.getfield 7, 3) := by decide +kernel
theorem d_mo_bitOf_27 : decode b_mo_bitOf 27 = .ok (.aload_n 0, 1) := by decide +kernel
theorem d_mo_bitOf_28 : decode b_mo_bitOf 28 = .ok (.iload_n 1, 1) := by decide +kernel
theorem d_mo_bitOf_29 : decode b_mo_bitOf 29 = .ok (.iload_n 2, 1) := by decide +kernel
theorem d_mo_bitOf_30 : decode b_mo_bitOf 30 = .ok (.iload_n 3, 1) := by decide +kernel
theorem d_mo_bitOf_31 : decode b_mo_bitOf 31 = .ok (.invokevirtual 56, 3) := by decide +kernel
theorem d_mo_bitOf_34 : decode b_mo_bitOf 34 = .ok (.iaload, 1) := by decide +kernel
theorem d_mo_bitOf_35 : decode b_mo_bitOf 35 = .ok (.istore 4, 2) := by decide +kernel
theorem d_mo_bitOf_37 : decode b_mo_bitOf 37 = .ok (.iload 4, 2) := by decide +kernel
theorem d_mo_bitOf_39 : decode b_mo_bitOf 39 = .ok (.iconst (-1), 1) := by decide +kernel
theorem d_mo_bitOf_40 : decode b_mo_bitOf 40 = .ok (.if_icmp .ne 11, 3) := by decide +kernel
theorem d_mo_bitOf_43 : decode b_mo_bitOf 43 = .ok (.aload_n 0, 1) := by decide +kernel
theorem d_mo_bitOf_44 : decode b_mo_bitOf 44 = .ok (.getfield 83, 3) := by decide +kernel
theorem d_mo_bitOf_47 : decode b_mo_bitOf 47 = .ok (.iconst 2, 1) := by decide +kernel
theorem d_mo_bitOf_48 : decode b_mo_bitOf 48 = .ok (.if_icmp .ge 19, 3) := by decide +kernel
theorem d_mo_bitOf_51 : decode b_mo_bitOf 51 = .ok (.iload 4, 2) := by decide +kernel
theorem d_mo_bitOf_53 : decode b_mo_bitOf 53 = .ok (.iconst (-1), 1) := by decide +kernel
theorem d_mo_bitOf_54 : decode b_mo_bitOf 54 = .ok (.if_icmp .eq 8, 3) := by decide +kernel
theorem d_mo_bitOf_57 : decode b_mo_bitOf 57 = .ok (.iload 4, 2) := by decide +kernel
theorem d_mo_bitOf_59 : decode b_mo_bitOf 59 = .ok (.goto 7, 3) := by decide +kernel
theorem d_mo_bitOf_62 : decode b_mo_bitOf 62 = .ok (.aload_n 0, 1) := by decide +kernel
theorem d_mo_bitOf_63 : decode b_mo_bitOf 63 = .ok (.getfield 83, 3) := by decide +kernel
theorem d_mo_bitOf_66 : decode b_mo_bitOf 66 = .ok (.ireturn, 1) := by decide +kernel
theorem d_mo_bitOf_67 : decode b_mo_bitOf 67 = .ok (.iload_n 3, 1) := by decide +kernel
theorem d_mo_bitOf_68 : decode b_mo_bitOf 68 = .ok (.iconst 1, 1) := by decide +kernel
theorem d_mo_bitOf_69 : decode b_mo_bitOf 69 = .ok (.isub, 1) := by decide +kernel
theorem d_mo_bitOf_70 : decode b_mo_bitOf 70 = .ok (.istore 5, 2) := by decide +kernel
theorem d_mo_bitOf_72 : decode b_mo_bitOf 72 = .ok (.iload 5, 2) := by decide +kernel
theorem d_mo_bitOf_74 : decode b_mo_bitOf 74 = .ok (.ifCond .lt 40, 3) := by decide +kernel
theorem d_mo_bitOf_77 : decode b_mo_bitOf 77 = .ok (.aload_n 0, 1) := by decide +kernel
theorem d_mo_bitOf_78 : decode b_mo_bitOf 78 = .ok (.getfield 7, 3) := by decide +kernel
theorem d_mo_bitOf_81 : decode b_mo_bitOf 81 = .ok (.aload_n 0, 1) := by decide +kernel
theorem d_mo_bitOf_82 : decode b_mo_bitOf 82 = .ok (.iload_n 1, 1) := by decide +kernel
theorem d_mo_bitOf_83 : decode b_mo_bitOf 83 = .ok (.iload_n 2, 1) := by decide +kernel
theorem d_mo_bitOf_84 : decode b_mo_bitOf 84 = .ok (.iload 5, 2) := by decide +kernel
theorem d_mo_bitOf_86 : decode b_mo_bitOf 86 = .ok (.invokevirtual 56, 3) := by decide +kernel
theorem d_mo_bitOf_89 : decode b_mo_bitOf 89 = .ok (.iaload, 1) := by decide +kernel
theorem d_mo_bitOf_90 : decode b_mo_bitOf 90 = .ok (.iconst (-1), 1) := by decide +kernel
theorem d_mo_bitOf_91 : decode b_mo_bitOf 91 = .ok (.if_icmp .eq 17, 3) := by decide +kernel
theorem d_mo_bitOf_94 : decode b_mo_bitOf 94 = .ok (.aload_n 0, 1) := by decide +kernel
theorem d_mo_bitOf_95 : decode b_mo_bitOf 95 = .ok (.getfield 7, 3) := by decide +kernel
theorem d_mo_bitOf_98 : decode b_mo_bitOf 98 = .ok (.aload_n 0, 1) := by decide +kernel
theorem d_mo_bitOf_99 : decode b_mo_bitOf 99 = .ok (.iload_n 1, 1) := by decide +kernel
theorem d_mo_bitOf_100 : decode b_mo_bitOf 100 = .ok (.iload_n 2, 1) := by decide +kernel
theorem d_mo_bitOf_101 : decode b_mo_bitOf 101 = .ok (.iload 5, 2) := by decide +kernel
theorem d_mo_bitOf_103 : decode b_mo_bitOf 103 = .ok (.invokevirtual 56, 3) := by decide +kernel
theorem d_mo_bitOf_106 : decode b_mo_bitOf 106 = .ok (.iaload, 1) := by decide +kernel
theorem d_mo_bitOf_107 : decode b_mo_bitOf 107 = .ok (.ireturn, 1) := by decide +kernel
theorem d_mo_bitOf_108 : decode b_mo_bitOf 108 = .ok (.iinc 5 (-1), 3) := by decide +kernel
theorem d_mo_bitOf_111 : decode b_mo_bitOf 111 = .ok (.goto (-39), 3) := by decide +kernel
theorem d_mo_bitOf_114 : decode b_mo_bitOf 114 = .ok (.iload_n 3, 1) := by decide +kernel
theorem d_mo_bitOf_115 : decode b_mo_bitOf 115 = .ok (.iconst 1, 1) := by decide +kernel
theorem d_mo_bitOf_116 : decode b_mo_bitOf 116 = .ok (.iadd, 1) := by decide +kernel
theorem d_mo_bitOf_117 : decode b_mo_bitOf 117 = .ok (.istore 5, 2) := by decide +kernel
theorem d_mo_bitOf_119 : decode b_mo_bitOf 119 = .ok (.iload 5, 2) := by decide +kernel
theorem d_mo_bitOf_121 : decode b_mo_bitOf 121 = .ok (.aload_n 0, 1) := by decide +kernel
theorem d_mo_bitOf_122 : decode b_mo_bitOf 122 = .ok (.getfield 36, 3) := by decide +kernel
theorem d_mo_bitOf_125 : decode b_mo_bitOf 125 = .ok (.if_icmp .ge 40, 3) := by decide +kernel
theorem d_mo_bitOf_128 : decode b_mo_bitOf 128 = .ok (.aload_n 0, 1) := by decide +kernel
theorem d_mo_bitOf_129 : decode b_mo_bitOf 129 = .ok (.getfield 7, 3) := by decide +kernel
theorem d_mo_bitOf_132 : decode b_mo_bitOf 132 = .ok (.aload_n 0, 1) := by decide +kernel
theorem d_mo_bitOf_133 : decode b_mo_bitOf 133 = .ok (.iload_n 1, 1) := by decide +kernel
theorem d_mo_bitOf_134 : decode b_mo_bitOf 134 = .ok (.iload_n 2, 1) := by decide +kernel
theorem d_mo_bitOf_135 : decode b_mo_bitOf 135 = .ok (.iload 5, 2) := by decide +kernel
theorem d_mo_bitOf_137 : decode b_mo_bitOf 137 = .ok (.invokevirtual 56, 3) := by decide +kernel
theorem d_mo_bitOf_140 : decode b_mo_bitOf 140 = .ok (.iaload, 1) := by decide +kernel
theorem d_mo_bitOf_141 : decode b_mo_bitOf 141 = .ok (.iconst (-1), 1) := by decide +kernel
theorem d_mo_bitOf_142 : decode b_mo_bitOf 142 = .ok (.if_icmp .eq 17, 3) := by decide +kernel
theorem d_mo_bitOf_145 : decode b_mo_bitOf 145 = .ok (.aload_n 0, 1) := by decide +kernel
theorem d_mo_bitOf_146 : decode b_mo_bitOf 146 = .ok (.getfield 7, 3) := by decide +kernel
theorem d_mo_bitOf_149 : decode b_mo_bitOf 149 = .ok (.aload_n 0, 1) := by decide +kernel
theorem d_mo_bitOf_150 : decode b_mo_bitOf 150 = .ok (.iload_n 1, 1) := by decide +kernel
theorem d_mo_bitOf_151 : decode b_mo_bitOf 151 = .ok (.iload_n 2, 1) := by decide +kernel
theorem d_mo_bitOf_152 : decode b_mo_bitOf 152 = .ok (.iload 5, 2) := by decide +kernel
theorem d_mo_bitOf_154 : decode b_mo_bitOf 154 = .ok (.invokevirtual 56, 3) := by decide +kernel
theorem d_mo_bitOf_157 : decode b_mo_bitOf 157 = .ok (.iaload, 1) := by decide +kernel
theorem d_mo_bitOf_158 : decode b_mo_bitOf 158 = .ok (.ireturn, 1) := by decide +kernel
theorem d_mo_bitOf_159 : decode b_mo_bitOf 159 = .ok (.iinc 5 1, 3) := by decide +kernel
theorem d_mo_bitOf_162 : decode b_mo_bitOf 162 = .ok (.goto (-43), 3) := by decide +kernel
theorem d_mo_bitOf_165 : decode b_mo_bitOf 165 = .ok (.iconst 0, 1) := by decide +kernel
theorem d_mo_bitOf_166 : decode b_mo_bitOf 166 = .ok (.ireturn, 1) := by decide +kernel
end
section
theorem d_mo_bit_0 : decode b_mo_bit 0 = .ok (.aload_n 0, 1) := by decide +kernel
theorem d_mo_bit_1 : decode b_mo_bit 1 = .ok (.aload_n 0, 1) := by decide +kernel
theorem d_mo_bit_2 : decode b_mo_bit 2 = .ok (.iload_n 1, 1) := by decide +kernel
theorem d_mo_bit_3 : decode b_mo_bit 3 = .ok (.invokevirtual 48, 3) := by decide +kernel
theorem d_mo_bit_6 : decode b_mo_bit 6 = .ok (.ifCond .eq 16, 3) := by decide +kernel
theorem d_mo_bit_9 : decode b_mo_bit 9 = .ok (.aload_n 0, 1) := by decide +kernel
theorem d_mo_bit_10 : decode b_mo_bit 10 = .ok (.iload_n 2, 1) := by decide +kernel
theorem d_mo_bit_11 : decode b_mo_bit 11 = .ok (.iload_n 3, 1) := by decide +kernel
theorem d_mo_bit_12 : decode b_mo_bit 12 = .ok (.invokevirtual 52, 3) := by decide +kernel
theorem d_mo_bit_15 : decode b_mo_bit 15 = .ok (.ifCond .eq 7, 3) := by decide +kernel
theorem d_mo_bit_18 : decode b_mo_bit 18 = .ok (.iconst 0, 1) := by decide +kernel
theorem d_mo_bit_19 : decode b_mo_bit 19 = .ok (.goto 4, 3) := by decide +kernel
theorem d_mo_bit_22 : decode b_mo_bit 22 = .ok (.iconst 1, 1) := by decide +kernel
theorem d_mo_bit_23 : decode b_mo_bit 23 = .ok (.putfield 42, 3) := by decide +kernel
theorem d_mo_bit_26 : decode b_mo_bit 26 = .ok (.aload_n 0, 1) := by decide +kernel
theorem d_mo_bit_27 : decode b_mo_bit 27 = .ok (.getfield 42, 3) := by decide +kernel
theorem d_mo_bit_30 : decode b_mo_bit 30 = .ok (.ifCond .le 7, 3) := by decide +kernel
theorem d_mo_bit_33 : decode b_mo_bit 33 = .ok (.iconst 0, 1) := by decide +kernel
theorem d_mo_bit_34 : decode b_mo_bit 34 = .ok (.goto 10, 3) := by decide +kernel
theorem d_mo_bit_37 : decode b_mo_bit 37 = .ok (.aload_n 0, 1) := by decide +kernel
theorem d_mo_bit_38 : decode b_mo_bit 38 = .ok (.iload_n 1, 1) := by decide +kernel
theorem d_mo_bit_39 : decode b_mo_bit 39 = .ok (.iload_n 2, 1) := by decide +kernel
theorem d_mo_bit_40 : decode b_mo_bit 40 = .ok (.iload_n 3, 1) := by decide +kernel
theorem d_mo_bit_41 : decode b_mo_bit 41 = .ok (.invokevirtual 86, 3) := by decide +kernel
theorem d_mo_bit_44 : decode b_mo_bit 44 = .ok (.ireturn, 1) := by decide +kernel
theorem d_mo_fill_0 : decode b_mo_fill 0 = .ok (.aload_n 0, 1) := by decide +kernel
theorem d_mo_fill_1 : decode b_mo_fill 1 = .ok (.iload_n 1, 1) := by decide +kernel
theorem d_mo_fill_2 : decode b_mo_fill 2 = .ok (.ifCond .lt 8, 3) := by decide +kernel
theorem d_mo_fill_5 : decode b_mo_fill 5 = .ok (.iload_n 1, 1) := by decide +kernel
theorem d_mo_fill_6 : decode b_mo_fill 6 = .ok (.iconst 2, 1) := by decide +kernel
theorem d_mo_fill_7 : decode b_mo_fill 7 = .ok (.if_icmp .le 7, 3) := by decide +kernel
theorem d_mo_fill_10 : decode b_mo_fill 10 = .ok (.iconst 1, 1) := by decide +kernel
theorem d_mo_fill_11 : decode b_mo_fill 11 = .ok (.goto 4, 3) := by decide +kernel
theorem d_mo_fill_14 : decode b_mo_fill 14 = .ok (.iconst 0, 1) := by decide +kernel
theorem d_mo_fill_15 : decode b_mo_fill 15 = .ok (.putfield 42, 3) := by decide +kernel
theorem d_mo_fill_18 : decode b_mo_fill 18 = .ok (.aload_n 0, 1) := by decide +kernel
theorem d_mo_fill_19 : decode b_mo_fill 19 = .ok (.getfield 42, 3) := by decide +kernel
theorem d_mo_fill_22 : decode b_mo_fill 22 = .ok (.ifCond .ne 15, 3) := by decide +kernel
theorem d_mo_fill_25 : decode b_mo_fill 25 = .ok (.iload_n 1, 1) := by decide +kernel
theorem d_mo_fill_26 : decode b_mo_fill 26 = .ok (.aload_n 0, 1) := by decide +kernel
theorem d_mo_fill_27 : decode b_mo_fill 27 = .ok (.getfield 83, 3) := by decide +kernel
theorem d_mo_fill_30 : decode b_mo_fill 30 = .ok (.if_icmp .eq 7, 3) := by decide +kernel
theorem d_mo_fill_33 : decode b_mo_fill 33 = .ok (.iconst 1, 1) := by decide +kernel
theorem d_mo_fill_34 : decode b_mo_fill 34 = .ok (.goto 4, 3) := by decide +kernel
theorem d_mo_fill_37 : decode b_mo_fill 37 = .ok (.iconst 0, 1) := by decide +kernel
theorem d_mo_fill_38 : decode b_mo_fill 38 = .ok (.istore_n 2, 1) := by decide +kernel
theorem d_mo_fill_39 : decode b_mo_fill 39 = .ok (.aload_n 0, 1) := by decide +kernel
theorem d_mo_fill_40 : decode b_mo_fill 40 = .ok (.aload_n 0, 1) := by decide +kernel
theorem d_mo_fill_41 : decode b_mo_fill 41 = .ok (.getfield 42, 3) := by decide +kernel
theorem d_mo_fill_44 : decode b_mo_fill 44 = .ok (.ifCond .le 10, 3) := by decide +kernel
theorem d_mo_fill_47 : decode b_mo_fill 47 = .ok (.aload_n 0, 1) := by decide +kernel
theorem d_mo_fill_48 : decode b_mo_fill 48 = .ok (.getfield 83, 3) := by decide +kernel
theorem d_mo_fill_51 : decode b_mo_fill 51 = .ok (.goto 4, 3) := by decide +kernel
theorem d_mo_fill_54 : decode b_mo_fill 54 = .ok (.iload_n 1, 1) := by decide +kernel
theorem d_mo_fill_55 : decode b_mo_fill 55 = .ok (.putfield 83, 3) := by decide +kernel
theorem d_mo_fill_58 : decode b_mo_fill 58 = .ok (.iload_n 2, 1) := by decide +kernel
theorem d_mo_fill_59 : decode b_mo_fill 59 = .ok (.ireturn, 1) := by decide +kernel
theorem d_mo_shifts_0 : decode b_mo_shifts 0 = .ok (.aload_n 0, 1) := by decide +kernel
theorem d_mo_shifts_1 : decode b_mo_shifts 1 = .ok (.aload_n 0, 1) := by decide +kernel
theorem d_mo_shifts_2 : decode b_mo_shifts 2 = .ok (.iload_n 1, 1) := by decide +kernel
theorem d_mo_shifts_3 : decode b_mo_shifts 3 = .ok (.invokevirtual 48, 3) := by decide +kernel
theorem d_mo_shifts_6 : decode b_mo_shifts 6 = .ok (.ifCond .eq 7, 3) := by decide +kernel
theorem d_mo_shifts_9 : decode b_mo_shifts 9 = .ok (.iconst 0, 1) := by decide +kernel
theorem d_mo_shifts_10 : decode b_mo_shifts 10 = .ok (.goto 4, 3) := by decide +kernel
theorem d_mo_shifts_13 : decode b_mo_shifts 13 = .ok (.iconst 1, 1) := by decide +kernel
theorem d_mo_shifts_14 : decode b_mo_shifts 14 = .ok (.putfield 42, 3) := by decide +kernel
theorem d_mo_shifts_17 : decode b_mo_shifts 17 = .ok (.lconst 0, 1) := by decide +kernel
theorem d_mo_shifts_18 : decode b_mo_shifts 18 = .ok (.lstore_n 2, 1) := by decide +kernel
theorem d_mo_shifts_19 : decode b_mo_shifts 19 = .ok (.iconst 0, 1) := by decide +kernel
theorem d_mo_shifts_20 : decode b_mo_shifts 20 = .ok (.istore 4, 2) := by decide +kernel
theorem d_mo_shifts_22 : decode b_mo_shifts 22 = .ok (.iload 4, 2) := by decide +kernel
theorem d_mo_shifts_24 : decode b_mo_shifts 24 = .ok (.aload_n 0, 1) := by decide +kernel
theorem d_mo_shifts_25 : decode b_mo_shifts 25 = .ok (.getfield 32, 3) := by decide +kernel
theorem d_mo_shifts_28 : decode b_mo_shifts 28 = .ok (.if_icmp .ge 71, 3) := by decide +kernel
theorem d_mo_shifts_31 : decode b_mo_shifts 31 = .ok (.aload_n 0, 1) := by decide +kernel
theorem d_mo_shifts_32 : decode b_mo_shifts 32 = .ok (.getfield 42, 3) := by decide +kernel
theorem d_mo_shifts_35 : decode b_mo_shifts 35 = .ok (.ifCond .ne 64, 3) := by decide +kernel
theorem d_mo_shifts_38 : decode b_mo_shifts 38 = .ok (.iconst 0, 1) := by decide +kernel
theorem d_mo_shifts_39 : decode b_mo_shifts 39 = .ok (.istore 5, 2) := by decide +kernel
theorem d_mo_shifts_41 : decode b_mo_shifts 41 = .ok (.iload 5, 2) := by decide +kernel
theorem d_mo_shifts_43 : decode b_mo_shifts 43 = .ok (.iconst 1, 1) := by decide +kernel
theorem d_mo_shifts_44 : decode b_mo_shifts 44 = .ok (.iadd, 1) := by decide +kernel
theorem d_mo_shifts_45 : decode b_mo_shifts 45 = .ok (.aload_n 0, 1) := by decide +kernel
theorem d_mo_shifts_46 : decode b_mo_shifts 46 = .ok (.getfield 36, 3) := by decide +kernel
theorem d_mo_shifts_49 : decode b_mo_shifts 49 = .ok (.if_icmp .ge 44, 3) := by decide +kernel
theorem d_mo_shifts_52 : decode b_mo_shifts 52 = .ok (.aload_n 0, 1) := by decide +kernel
theorem d_mo_shifts_53 : decode b_mo_shifts 53 = .ok (.iload_n 1, 1) := by decide +kernel
theorem d_mo_shifts_54 : decode b_mo_shifts 54 = .ok (.iload 4, 2) := by decide +kernel
theorem d_mo_shifts_56 : decode b_mo_shifts 56 = .ok (.iload 5, 2) := by decide +kernel
theorem d_mo_shifts_58 : decode b_mo_shifts 58 = .ok (.invokevirtual 86, 3) := by decide +kernel
theorem d_mo_shifts_61 : decode b_mo_shifts 61 = .ok (.aload_n 0, 1) := by decide +kernel
theorem d_mo_shifts_62 : decode b_mo_shifts 62 = .ok (.iload_n 1, 1) := by decide +kernel
theorem d_mo_shifts_63 : decode b_mo_shifts 63 = .ok (.iload 4, 2) := by decide +kernel
theorem d_mo_shifts_65 : decode b_mo_shifts 65 = .ok (.iload 5, 2) := by decide +kernel
theorem d_mo_shifts_67 : decode b_mo_shifts 67 = .ok (.iconst 1, 1) := by decide +kernel
theorem d_mo_shifts_68 : decode b_mo_shifts 68 = .ok (.iadd, 1) := by decide +kernel
theorem d_mo_shifts_69 : decode b_mo_shifts 69 = .ok (.invokevirtual 86, 3) := by decide +kernel
theorem d_mo_shifts_72 : decode b_mo_shifts 72 = .ok (.if_icmp .eq 13, 3) := by decide +kernel
theorem d_mo_shifts_75 : decode b_mo_shifts 75 = .ok (.lload_n 2, 1) := by decide +kernel
theorem d_mo_shifts_76 : decode b_mo_shifts 76 = .ok (.iload 5, 2) := by decide +kernel
theorem d_mo_shifts_78 : decode b_mo_shifts 78 = .ok (.i2l, 1) := by decide +kernel
theorem d_mo_shifts_79 : decode b_mo_shifts 79 = .ok (.ladd, 1) := by decide +kernel
theorem d_mo_shifts_80 : decode b_mo_shifts 80 = .ok (.lconst 1, 1) := by decide +kernel
theorem d_mo_shifts_81 : decode b_mo_shifts 81 = .ok (.ladd, 1) := by decide +kernel
theorem d_mo_shifts_82 : decode b_mo_shifts 82 = .ok (.goto 4, 3) := by decide +kernel
theorem d_mo_shifts_85 : decode b_mo_shifts 85 = .ok (.lload_n 2, 1) := by decide +kernel
theorem d_mo_shifts_86 : decode b_mo_shifts 86 = .ok (.lstore_n 2, 1) := by decide +kernel
theorem d_mo_shifts_87 : decode b_mo_shifts 87 = .ok (.iinc 5 1, 3) := by decide +kernel
theorem d_mo_shifts_90 : decode b_mo_shifts 90 = .ok (.goto (-49), 3) := by decide +kernel
theorem d_mo_shifts_93 : decode b_mo_shifts 93 = .ok (.iinc 4 1, 3) := by decide +kernel
theorem d_mo_shifts_96 : decode b_mo_shifts 96 = .ok (.goto (-74), 3) := by decide +kernel
theorem d_mo_shifts_99 : decode b_mo_shifts 99 = .ok (.lload_n 2, 1) := by decide +kernel
theorem d_mo_shifts_100 : decode b_mo_shifts 100 = .ok (.lreturn, 1) := by decide +kernel
theorem d_mo_signature_0 : decode b_mo_signature 0 = .ok (.aload_n 0, 1) := by decide +kernel
theorem d_mo_signature_1 : decode b_mo_signature 1 = .ok (.iload_n 1, 1) := by decide +kernel
theorem d_mo_signature_2 : decode b_mo_signature 2 = .ok (.ifCond .lt 8, 3) := by decide +kernel
theorem d_mo_signature_5 : decode b_mo_signature 5 = .ok (.iload_n 2, 1) := by decide +kernel
theorem d_mo_signature_6 : decode b_mo_signature 6 = .ok (.iload_n 1, 1) := by decide +kernel
theorem d_mo_signature_7 : decode b_mo_signature 7 = .ok (.if_icmp .ge 7, 3) := by decide +kernel
theorem d_mo_signature_10 : decode b_mo_signature 10 = .ok (.iconst 1, 1) := by decide +kernel
theorem d_mo_signature_11 : decode b_mo_signature 11 = .ok (.goto 4, 3) := by decide +kernel
theorem d_mo_signature_14 : decode b_mo_signature 14 = .ok (.iconst 0, 1) := by decide +kernel
theorem d_mo_signature_15 : decode b_mo_signature 15 = .ok (.putfield 42, 3) := by decide +kernel
theorem d_mo_signature_18 : decode b_mo_signature 18 = .ok (.iconst 0, 1) := by decide +kernel
theorem d_mo_signature_19 : decode b_mo_signature 19 = .ok (.istore_n 3, 1) := by decide +kernel
theorem d_mo_signature_20 : decode b_mo_signature 20 = .ok (.iload_n 1, 1) := by decide +kernel
theorem d_mo_signature_21 : decode b_mo_signature 21 = .ok (.istore 4, 2) := by decide +kernel
theorem d_mo_signature_23 : decode b_mo_signature 23 = .ok (.aload_n 0, 1) := by decide +kernel
theorem d_mo_signature_24 : decode b_mo_signature 24 = .ok (.getfield 42, 3) := by decide +kernel
theorem d_mo_signature_27 : decode b_mo_signature 27 = .ok (.ifCond .ne 124, 3) := by decide +kernel
theorem d_mo_signature_30 : decode b_mo_signature 30 = .ok (.iload 4, 2) := by decide +kernel
theorem d_mo_signature_32 : decode b_mo_signature 32 = .ok (.aload_n 0, 1) := by decide +kernel
theorem d_mo_signature_33 : decode b_mo_signature 33 = .ok (.getfield 45, 3) := by decide +kernel
theorem d_mo_signature_36 : decode b_mo_signature 36 = .ok (.if_icmp .ge 115, 3) := by decide +kernel
theorem d_mo_signature_39 : decode b_mo_signature 39 = .ok (.iload 4, 2) := by decide +kernel
theorem d_mo_signature_41 : decode b_mo_signature 41 = .ok (.iload_n 2, 1) := by decide +kernel
theorem d_mo_signature_42 : decode b_mo_signature 42 = .ok (.if_icmp .gt 109, 3) := by decide +kernel
theorem d_mo_signature_45 : decode b_mo_signature 45 = .ok (.aload_n 0, 1) := by decide +kernel
theorem d_mo_signature_46 : decode b_mo_signature 46 = .ok (.getfield 36, 3) := by decide +kernel
theorem d_mo_signature_49 : decode b_mo_signature 49 = .ok (.iconst 1, 1) := by decide +kernel
theorem d_mo_signature_50 : decode b_mo_signature 50 = .ok (.isub, 1) := by decide +kernel
theorem d_mo_signature_51 : decode b_mo_signature 51 = .ok (.istore 5, 2) := by decide +kernel
theorem d_mo_signature_53 : decode b_mo_signature 53 = .ok (.iload 5, 2) := by decide +kernel
theorem d_mo_signature_55 : decode b_mo_signature 55 = .ok (.ifCond .lt 90, 3) := by decide +kernel
theorem d_mo_signature_58 : decode b_mo_signature 58 = .ok (.aload_n 0, 1) := by decide +kernel
theorem d_mo_signature_59 : decode b_mo_signature 59 = .ok (.getfield 20, 3) := by decide +kernel
theorem d_mo_signature_62 : decode b_mo_signature 62 = .ok (.iload 4, 2) := by decide +kernel
theorem d_mo_signature_64 : decode b_mo_signature 64 = .ok (.baload, 1) := by decide +kernel
theorem d_mo_signature_65 : decode b_mo_signature 65 = .ok (.ifCond .ne 80, 3) := by decide +kernel
theorem d_mo_signature_68 : decode b_mo_signature 68 = .ok (.aload_n 0, 1) := by decide +kernel
theorem d_mo_signature_69 : decode b_mo_signature 69 = .ok (.iload_n 3, 1) := by decide +kernel
theorem d_mo_signature_70 : decode b_mo_signature 70 = .ok (.invokevirtual 74, 3) := by decide +kernel
theorem d_mo_signature_73 : decode b_mo_signature 73 = .ok (.istore_n 3, 1) := by decide +kernel
theorem d_mo_signature_74 : decode b_mo_signature 74 = .ok (.iconst 0, 1) := by decide +kernel
theorem d_mo_signature_75 : decode b_mo_signature 75 = .ok (.istore 6, 2) := by decide +kernel
theorem d_mo_signature_77 : decode b_mo_signature 77 = .ok (.iload 6, 2) := by decide +kernel
theorem d_mo_signature_79 : decode b_mo_signature 79 = .ok (.aload_n 0, 1) := by decide +kernel
theorem d_mo_signature_80 : decode b_mo_signature 80 = .ok (.getfield 32, 3) := by decide +kernel
theorem d_mo_signature_83 : decode b_mo_signature 83 = .ok (.if_icmp .ge 56, 3) := by decide +kernel
theorem d_mo_signature_86 : decode b_mo_signature 86 = .ok (.aload_n 0, 1) := by decide +kernel
theorem d_mo_signature_87 : decode b_mo_signature 87 = .ok (.getfield 13, 3) := by decide +kernel
theorem d_mo_signature_90 : decode b_mo_signature 90 = .ok (.aload_n 0, 1) := by decide +kernel
theorem d_mo_signature_91 : decode b_mo_signature 91 = .ok (.iload 4, 2) := by decide +kernel
theorem d_mo_signature_93 : decode b_mo_signature 93 = .ok (.iload 6, 2) := by decide +kernel
theorem d_mo_signature_95 : decode b_mo_signature 95 = .ok (.iload 5, 2) := by decide +kernel
theorem d_mo_signature_97 : decode b_mo_signature 97 = .ok (.invokevirtual 56, 3) := by decide +kernel
theorem d_mo_signature_100 : decode b_mo_signature 100 = .ok (.baload, 1) := by decide +kernel
theorem d_mo_signature_101 : decode b_mo_signature 101 = .ok (.ifCond .eq 7, 3) := by decide +kernel
theorem d_mo_signature_104 : decode b_mo_signature 104 = .ok (.iconst 0, 1) := by decide +kernel
theorem d_mo_signature_105 : decode b_mo_signature 105 = .ok (.goto 13, 3) := by decide +kernel
theorem d_mo_signature_108 : decode b_mo_signature 108 = .ok (.aload_n 0, 1) := by decide +kernel
theorem d_mo_signature_109 : decode b_mo_signature 109 = .ok (.iload 4, 2) := by decide +kernel
theorem d_mo_signature_111 : decode b_mo_signature 111 = .ok (.iload 6, 2) := by decide +kernel
theorem d_mo_signature_113 : decode b_mo_signature 113 = .ok (.iload 5, 2) := by decide +kernel
theorem d_mo_signature_115 : decode b_mo_signature 115 = .ok (.invokevirtual 86, 3) := by decide +kernel
theorem d_mo_signature_118 : decode b_mo_signature 118 = .ok (.istore 7, 2) := by decide +kernel
theorem d_mo_signature_120 : decode b_mo_signature 120 = .ok (.iload_n 3, 1) := by decide +kernel
theorem d_mo_signature_121 : decode b_mo_signature 121 = .ok (.iload 7, 2) := by decide +kernel
theorem d_mo_signature_123 : decode b_mo_signature 123 = .ok (.iload 6, 2) := by decide +kernel
theorem d_mo_signature_125 : decode b_mo_signature 125 = .ok (.aload_n 0, 1) := by decide +kernel
theorem d_mo_signature_126 : decode b_mo_signature 126 = .ok (.getfield 39, 3) := by decide +kernel
theorem d_mo_signature_129 : decode b_mo_signature 129 = .ok (.irem, 1) := by decide +kernel
theorem d_mo_signature_130 : decode b_mo_signature 130 = .ok (.ishl, 1) := by decide +kernel
theorem d_mo_signature_131 : decode b_mo_signature 131 = .ok (.ixor, 1) := by decide +kernel
theorem d_mo_signature_132 : decode b_mo_signature 132 = .ok (.istore_n 3, 1) := by decide +kernel
theorem d_mo_signature_133 : decode b_mo_signature 133 = .ok (.iinc 6 1, 3) := by decide +kernel
theorem d_mo_signature_136 : decode b_mo_signature 136 = .ok (.goto (-59), 3) := by decide +kernel
theorem d_mo_signature_139 : decode b_mo_signature 139 = .ok (.iinc 5 (-1), 3) := by decide +kernel
theorem d_mo_signature_142 : decode b_mo_signature 142 = .ok (.goto (-89), 3) := by decide +kernel
theorem d_mo_signature_145 : decode b_mo_signature 145 = .ok (.iinc 4 1, 3) := by decide +kernel
theorem d_mo_signature_148 : decode b_mo_signature 148 = .ok (.goto (-125), 3) := by decide +kernel
theorem d_mo_signature_151 : decode b_mo_signature 151 = .ok (.iload_n 3, 1) := by decide +kernel
theorem d_mo_signature_152 : decode b_mo_signature 152 = .ok (.i2l, 1) := by decide +kernel
theorem d_mo_signature_153 : decode b_mo_signature 153 = .ok (.lreturn, 1) := by decide +kernel
theorem d_mo_primitive_0 : decode b_mo_primitive 0 = .ok (.aload_n 0, 1) := by decide +kernel
theorem d_mo_primitive_1 : decode b_mo_primitive 1 = .ok (.iconst 0, 1) := by decide +kernel
theorem d_mo_primitive_2 : decode b_mo_primitive 2 = .ok (.putfield 42, 3) := by decide +kernel
theorem d_mo_primitive_5 : decode b_mo_primitive 5 = .ok (.aload_n 0, 1) := by decide +kernel
theorem d_mo_primitive_6 : decode b_mo_primitive 6 = .ok (.iconst 1, 1) := by decide +kernel
theorem d_mo_primitive_7 : decode b_mo_primitive 7 = .ok (.invokevirtual 74, 3) := by decide +kernel
theorem d_mo_primitive_10 : decode b_mo_primitive 10 = .ok (.istore_n 1, 1) := by decide +kernel
theorem d_mo_primitive_11 : decode b_mo_primitive 11 = .ok (.iconst 1, 1) := by decide +kernel
theorem d_mo_primitive_12 : decode b_mo_primitive 12 = .ok (.istore_n 2, 1) := by decide +kernel
theorem d_mo_primitive_13 : decode b_mo_primitive 13 = .ok (.iload_n 1, 1) := by decide +kernel
theorem d_mo_primitive_14 : decode b_mo_primitive 14 = .ok (.iconst 1, 1) := by decide +kernel
theorem d_mo_primitive_15 : decode b_mo_primitive 15 = .ok (.if_icmp .eq 25, 3) := by decide +kernel
theorem d_mo_primitive_18 : decode b_mo_primitive 18 = .ok (.iload_n 2, 1) := by decide +kernel
theorem d_mo_primitive_19 : decode b_mo_primitive 19 = .ok (.iconst 1, 1) := by decide +kernel
theorem d_mo_primitive_20 : decode b_mo_primitive 20 = .ok (.aload_n 0, 1) := by decide +kernel
theorem d_mo_primitive_21 : decode b_mo_primitive 21 = .ok (.getfield 39, 3) := by decide +kernel
theorem d_mo_primitive_24 : decode b_mo_primitive 24 = .ok (.ishl, 1) := by decide +kernel
theorem d_mo_primitive_25 : decode b_mo_primitive 25 = .ok (.if_icmp .ge 15, 3) := by decide +kernel
theorem d_mo_primitive_28 : decode b_mo_primitive 28 = .ok (.aload_n 0, 1) := by decide +kernel
theorem d_mo_primitive_29 : decode b_mo_primitive 29 = .ok (.iload_n 1, 1) := by decide +kernel
theorem d_mo_primitive_30 : decode b_mo_primitive 30 = .ok (.invokevirtual 74, 3) := by decide +kernel
theorem d_mo_primitive_33 : decode b_mo_primitive 33 = .ok (.istore_n 1, 1) := by decide +kernel
theorem d_mo_primitive_34 : decode b_mo_primitive 34 = .ok (.iinc 2 1, 3) := by decide +kernel
theorem d_mo_primitive_37 : decode b_mo_primitive 37 = .ok (.goto (-24), 3) := by decide +kernel
theorem d_mo_primitive_40 : decode b_mo_primitive 40 = .ok (.iload_n 1, 1) := by decide +kernel
theorem d_mo_primitive_41 : decode b_mo_primitive 41 = .ok (.iconst 1, 1) := by decide +kernel
theorem d_mo_primitive_42 : decode b_mo_primitive 42 = .ok (.if_icmp .ne 19, 3) := by decide +kernel
theorem d_mo_primitive_45 : decode b_mo_primitive 45 = .ok (.iload_n 2, 1) := by decide +kernel
theorem d_mo_primitive_46 : decode b_mo_primitive 46 = .ok (.iconst 1, 1) := by decide +kernel
theorem d_mo_primitive_47 : decode b_mo_primitive 47 = .ok (.aload_n 0, 1) := by decide +kernel
theorem d_mo_primitive_48 : decode b_mo_primitive 48 = .ok (.getfield 39, 3) := by decide +kernel
theorem d_mo_primitive_51 : decode b_mo_primitive 51 = .ok (.ishl, 1) := by decide +kernel
theorem d_mo_primitive_52 : decode b_mo_primitive 52 = .ok (.iconst 1, 1) := by decide +kernel
theorem d_mo_primitive_53 : decode b_mo_primitive 53 = .ok (.isub, 1) := by decide +kernel
theorem d_mo_primitive_54 : decode b_mo_primitive 54 = .ok (.if_icmp .ne 7, 3) := by decide +kernel
theorem d_mo_primitive_57 : decode b_mo_primitive 57 = .ok (.iconst 1, 1) := by decide +kernel
theorem d_mo_primitive_58 : decode b_mo_primitive 58 = .ok (.goto 4, 3) := by decide +kernel
theorem d_mo_primitive_61 : decode b_mo_primitive 61 = .ok (.iconst 0, 1) := by decide +kernel
theorem d_mo_primitive_62 : decode b_mo_primitive 62 = .ok (.ireturn, 1) := by decide +kernel
theorem d_mo_rank_0 : decode b_mo_rank 0 = .ok (.iconst 0, 1) := by decide +kernel
theorem d_mo_rank_1 : decode b_mo_rank 1 = .ok (.istore_n 2, 1) := by decide +kernel
theorem d_mo_rank_2 : decode b_mo_rank 2 = .ok (.iload_n 2, 1) := by decide +kernel
theorem d_mo_rank_3 : decode b_mo_rank 3 = .ok (.bipush 16, 2) := by decide +kernel
theorem d_mo_rank_5 : decode b_mo_rank 5 = .ok (.if_icmp .ge 16, 3) := by decide +kernel
theorem d_mo_rank_8 : decode b_mo_rank 8 = .ok (.aload_n 0, 1) := by decide +kernel
theorem d_mo_rank_9 : decode b_mo_rank 9 = .ok (.getfield 29, 3) := by decide +kernel
theorem d_mo_rank_12 : decode b_mo_rank 12 = .ok (.iload_n 2, 1) := by decide +kernel
theorem d_mo_rank_13 : decode b_mo_rank 13 = .ok (.iconst 0, 1) := by decide +kernel
theorem d_mo_rank_14 : decode b_mo_rank 14 = .ok (.iastore, 1) := by decide +kernel
theorem d_mo_rank_15 : decode b_mo_rank 15 = .ok (.iinc 2 1, 3) := by decide +kernel
theorem d_mo_rank_18 : decode b_mo_rank 18 = .ok (.goto (-16), 3) := by decide +kernel
theorem d_mo_rank_21 : decode b_mo_rank 21 = .ok (.iconst 0, 1) := by decide +kernel
theorem d_mo_rank_22 : decode b_mo_rank 22 = .ok (.istore_n 2, 1) := by decide +kernel
theorem d_mo_rank_23 : decode b_mo_rank 23 = .ok (.iconst 1, 1) := by decide +kernel
theorem d_mo_rank_24 : decode b_mo_rank 24 = .ok (.istore_n 3, 1) := by decide +kernel
theorem d_mo_rank_25 : decode b_mo_rank 25 = .ok (.iconst 0, 1) := by decide +kernel
theorem d_mo_rank_26 : decode b_mo_rank 26 = .ok (.istore 4, 2) := by decide +kernel
theorem d_mo_rank_28 : decode b_mo_rank 28 = .ok (.iload 4, 2) := by decide +kernel
theorem d_mo_rank_30 : decode b_mo_rank 30 = .ok (.iload_n 1, 1) := by decide +kernel
theorem d_mo_rank_31 : decode b_mo_rank 31 = .ok (.if_icmp .ge 95, 3) := by decide +kernel
theorem d_mo_rank_34 : decode b_mo_rank 34 = .ok (.iload_n 3, 1) := by decide +kernel
theorem d_mo_rank_35 : decode b_mo_rank 35 = .ok (.istore 5, 2) := by decide +kernel
theorem d_mo_rank_37 : decode b_mo_rank 37 = .ok (.bipush 15, 2) := by decide +kernel
theorem d_mo_rank_39 : decode b_mo_rank 39 = .ok (.istore 6, 2) := by decide +kernel
theorem d_mo_rank_41 : decode b_mo_rank 41 = .ok (.iload 6, 2) := by decide +kernel
theorem d_mo_rank_43 : decode b_mo_rank 43 = .ok (.ifCond .lt 71, 3) := by decide +kernel
theorem d_mo_rank_46 : decode b_mo_rank 46 = .ok (.iload 5, 2) := by decide +kernel
theorem d_mo_rank_48 : decode b_mo_rank 48 = .ok (.iload 6, 2) := by decide +kernel
theorem d_mo_rank_50 : decode b_mo_rank 50 = .ok (.ishr, 1) := by decide +kernel
theorem d_mo_rank_51 : decode b_mo_rank 51 = .ok (.iconst 1, 1) := by decide +kernel
theorem d_mo_rank_52 : decode b_mo_rank 52 = .ok (.iand, 1) := by decide +kernel
theorem d_mo_rank_53 : decode b_mo_rank 53 = .ok (.iconst 1, 1) := by decide +kernel
theorem d_mo_rank_54 : decode b_mo_rank 54 = .ok (.if_icmp .ne 28, 3) := by decide +kernel
theorem d_mo_rank_57 : decode b_mo_rank 57 = .ok (.aload_n 0, 1) := by decide +kernel
theorem d_mo_rank_58 : decode b_mo_rank 58 = .ok (.getfield 29, 3) := by decide +kernel
theorem d_mo_rank_61 : decode b_mo_rank 61 = .ok (.iload 6, 2) := by decide +kernel
theorem d_mo_rank_63 : decode b_mo_rank 63 = .ok (.iaload, 1) := by decide +kernel
theorem d_mo_rank_64 : decode b_mo_rank 64 = .ok (.ifCond .eq 18, 3) := by decide +kernel
theorem d_mo_rank_67 : decode b_mo_rank 67 = .ok (.iload 5, 2) := by decide +kernel
theorem d_mo_rank_69 : decode b_mo_rank 69 = .ok (.aload_n 0, 1) := by decide +kernel
theorem d_mo_rank_70 : decode b_mo_rank 70 = .ok (.getfield 29, 3) := by decide +kernel
theorem d_mo_rank_73 : decode b_mo_rank 73 = .ok (.iload 6, 2) := by decide +kernel
theorem d_mo_rank_75 : decode b_mo_rank 75 = .ok (.iaload, 1) := by decide +kernel
theorem d_mo_rank_76 : decode b_mo_rank 76 = .ok (.ixor, 1) := by decide +kernel
theorem d_mo_rank_77 : decode b_mo_rank 77 = .ok (.istore 5, 2) := by decide +kernel
theorem d_mo_rank_79 : decode b_mo_rank 79 = .ok (.goto 29, 3) := by decide +kernel
theorem d_mo_rank_82 : decode b_mo_rank 82 = .ok (.iload 5, 2) := by decide +kernel
theorem d_mo_rank_84 : decode b_mo_rank 84 = .ok (.iload 6, 2) := by decide +kernel
theorem d_mo_rank_86 : decode b_mo_rank 86 = .ok (.ishr, 1) := by decide +kernel
theorem d_mo_rank_87 : decode b_mo_rank 87 = .ok (.iconst 1, 1) := by decide +kernel
theorem d_mo_rank_88 : decode b_mo_rank 88 = .ok (.iand, 1) := by decide +kernel
theorem d_mo_rank_89 : decode b_mo_rank 89 = .ok (.iconst 1, 1) := by decide +kernel
theorem d_mo_rank_90 : decode b_mo_rank 90 = .ok (.if_icmp .ne 18, 3) := by decide +kernel
theorem d_mo_rank_93 : decode b_mo_rank 93 = .ok (.aload_n 0, 1) := by decide +kernel
theorem d_mo_rank_94 : decode b_mo_rank 94 = .ok (.getfield 29, 3) := by decide +kernel
theorem d_mo_rank_97 : decode b_mo_rank 97 = .ok (.iload 6, 2) := by decide +kernel
theorem d_mo_rank_99 : decode b_mo_rank 99 = .ok (.iload 5, 2) := by decide +kernel
theorem d_mo_rank_101 : decode b_mo_rank 101 = .ok (.iastore, 1) := by decide +kernel
theorem d_mo_rank_102 : decode b_mo_rank 102 = .ok (.iinc 2 1, 3) := by decide +kernel
theorem d_mo_rank_105 : decode b_mo_rank 105 = .ok (.iconst 0, 1) := by decide +kernel
theorem d_mo_rank_106 : decode b_mo_rank 106 = .ok (.istore 5, 2) := by decide +kernel
theorem d_mo_rank_108 : decode b_mo_rank 108 = .ok (.iinc 6 (-1), 3) := by decide +kernel
theorem d_mo_rank_111 : decode b_mo_rank 111 = .ok (.goto (-70), 3) := by decide +kernel
theorem d_mo_rank_114 : decode b_mo_rank 114 = .ok (.aload_n 0, 1) := by decide +kernel
theorem d_mo_rank_115 : decode b_mo_rank 115 = .ok (.iload_n 3, 1) := by decide +kernel
theorem d_mo_rank_116 : decode b_mo_rank 116 = .ok (.invokevirtual 74, 3) := by decide +kernel
theorem d_mo_rank_119 : decode b_mo_rank 119 = .ok (.istore_n 3, 1) := by decide +kernel
theorem d_mo_rank_120 : decode b_mo_rank 120 = .ok (.iinc 4 1, 3) := by decide +kernel
theorem d_mo_rank_123 : decode b_mo_rank 123 = .ok (.goto (-95), 3) := by decide +kernel
theorem d_mo_rank_126 : decode b_mo_rank 126 = .ok (.iload_n 2, 1) := by decide +kernel
theorem d_mo_rank_127 : decode b_mo_rank 127 = .ok (.ireturn, 1) := by decide +kernel
theorem d_mo_alias_0 : decode b_mo_alias 0 = .ok (.aload_n 0, 1) := by decide +kernel
theorem d_mo_alias_1 : decode b_mo_alias 1 = .ok (.iload_n 1, 1) := by decide +kernel
theorem d_mo_alias_2 : decode b_mo_alias 2 = .ok (.iconst 1, 1) := by decide +kernel
theorem d_mo_alias_3 : decode b_mo_alias 3 = .ok (.if_icmp .lt 18, 3) := by decide +kernel
theorem d_mo_alias_6 : decode b_mo_alias 6 = .ok (.iload_n 1, 1) := by decide +kernel
theorem d_mo_alias_7 : decode b_mo_alias 7 = .ok (.bipush 60, 2) := by decide +kernel
theorem d_mo_alias_9 : decode b_mo_alias 9 = .ok (.if_icmp .gt 12, 3) := by decide +kernel
theorem d_mo_alias_12 : decode b_mo_alias 12 = .ok (.iload_n 2, 1) := by decide +kernel
theorem d_mo_alias_13 : decode b_mo_alias 13 = .ok (.ifCond .lt 8, 3) := by decide +kernel
theorem d_mo_alias_16 : decode b_mo_alias 16 = .ok (.iload_n 2, 1) := by decide +kernel
theorem d_mo_alias_17 : decode b_mo_alias 17 = .ok (.iconst 1, 1) := by decide +kernel
theorem d_mo_alias_18 : decode b_mo_alias 18 = .ok (.if_icmp .le 7, 3) := by decide +kernel
theorem d_mo_alias_21 : decode b_mo_alias 21 = .ok (.iconst 1, 1) := by decide +kernel
theorem d_mo_alias_22 : decode b_mo_alias 22 = .ok (.goto 4, 3) := by decide +kernel
theorem d_mo_alias_25 : decode b_mo_alias 25 = .ok (.iconst 0, 1) := by decide +kernel
theorem d_mo_alias_26 : decode b_mo_alias 26 = .ok (.putfield 42, 3) := by decide +kernel
theorem d_mo_alias_29 : decode b_mo_alias 29 = .ok (.aload_n 0, 1) := by decide +kernel
theorem d_mo_alias_30 : decode b_mo_alias 30 = .ok (.getfield 42, 3) := by decide +kernel
theorem d_mo_alias_33 : decode b_mo_alias 33 = .ok (.ifCond .le 5, 3) := by decide +kernel
theorem d_mo_alias_36 : decode b_mo_alias 36 = .ok (.lconst 0, 1) := by decide +kernel
theorem d_mo_alias_37 : decode b_mo_alias 37 = .ok (.lreturn, 1) := by decide +kernel
theorem d_mo_alias_38 : decode b_mo_alias 38 = .ok (.lconst 1, 1) := by decide +kernel
theorem d_mo_alias_39 : decode b_mo_alias 39 = .ok (.iload_n 1, 1) := by decide +kernel
theorem d_mo_alias_40 : decode b_mo_alias 40 = .ok (.aload_n 0, 1) := by decide +kernel
theorem d_mo_alias_41 : decode b_mo_alias 41 = .ok (.iload_n 1, 1) := by decide +kernel
theorem d_mo_alias_42 : decode b_mo_alias 42 = .ok (.invokevirtual 89, 3) := by decide +kernel
theorem d_mo_alias_45 : decode b_mo_alias 45 = .ok (.isub, 1) := by decide +kernel
theorem d_mo_alias_46 : decode b_mo_alias 46 = .ok (.lshl, 1) := by decide +kernel
theorem d_mo_alias_47 : decode b_mo_alias 47 = .ok (.lconst 1, 1) := by decide +kernel
theorem d_mo_alias_48 : decode b_mo_alias 48 = .ok (.lsub, 1) := by decide +kernel
theorem d_mo_alias_49 : decode b_mo_alias 49 = .ok (.lstore_n 3, 1) := by decide +kernel
theorem d_mo_alias_50 : decode b_mo_alias 50 = .ok (.lconst 1, 1) := by decide +kernel
theorem d_mo_alias_51 : decode b_mo_alias 51 = .ok (.iload_n 1, 1) := by decide +kernel
theorem d_mo_alias_52 : decode b_mo_alias 52 = .ok (.lshl, 1) := by decide +kernel
theorem d_mo_alias_53 : decode b_mo_alias 53 = .ok (.lconst 1, 1) := by decide +kernel
theorem d_mo_alias_54 : decode b_mo_alias 54 = .ok (.lsub, 1) := by decide +kernel
theorem d_mo_alias_55 : decode b_mo_alias 55 = .ok (.lstore 5, 2) := by decide +kernel
theorem d_mo_alias_57 : decode b_mo_alias 57 = .ok (.lload 5, 2) := by decide +kernel
theorem d_mo_alias_59 : decode b_mo_alias 59 = .ok (.lstore 7, 2) := by decide +kernel
theorem d_mo_alias_61 : decode b_mo_alias 61 = .ok (.lload_n 3, 1) := by decide +kernel
theorem d_mo_alias_62 : decode b_mo_alias 62 = .ok (.lstore 9, 2) := by decide +kernel
theorem d_mo_alias_64 : decode b_mo_alias 64 = .ok (.lload 9, 2) := by decide +kernel
theorem d_mo_alias_66 : decode b_mo_alias 66 = .ok (.lconst 0, 1) := by decide +kernel
theorem d_mo_alias_67 : decode b_mo_alias 67 = .ok (.lcmp, 1) := by decide +kernel
theorem d_mo_alias_68 : decode b_mo_alias 68 = .ok (.ifCond .eq 21, 3) := by decide +kernel
theorem d_mo_alias_71 : decode b_mo_alias 71 = .ok (.lload 7, 2) := by decide +kernel
theorem d_mo_alias_73 : decode b_mo_alias 73 = .ok (.lload 9, 2) := by decide +kernel
theorem d_mo_alias_75 : decode b_mo_alias 75 = .ok (.lrem, 1) := by decide +kernel
theorem d_mo_alias_76 : decode b_mo_alias 76 = .ok (.lstore 11, 2) := by decide +kernel
theorem d_mo_alias_78 : decode b_mo_alias 78 = .ok (.lload 9, 2) := by decide +kernel
theorem d_mo_alias_80 : decode b_mo_alias 80 = .ok (.lstore 7, 2) := by decide +kernel
theorem d_mo_alias_82 : decode b_mo_alias 82 = .ok (.lload 11, 2) := by decide +kernel
theorem d_mo_alias_84 : decode b_mo_alias 84 = .ok (.lstore 9, 2) := by decide +kernel
theorem d_mo_alias_86 : decode b_mo_alias 86 = .ok (.goto (-22), 3) := by decide +kernel
theorem d_mo_alias_89 : decode b_mo_alias 89 = .ok (.iload_n 2, 1) := by decide +kernel
theorem d_mo_alias_90 : decode b_mo_alias 90 = .ok (.ifCond .ne 10, 3) := by decide +kernel
theorem d_mo_alias_93 : decode b_mo_alias 93 = .ok (.lload_n 3, 1) := by decide +kernel
theorem d_mo_alias_94 : decode b_mo_alias 94 = .ok (.lload 7, 2) := by decide +kernel
theorem d_mo_alias_96 : decode b_mo_alias 96 = .ok (.ldiv, 1) := by decide +kernel
theorem d_mo_alias_97 : decode b_mo_alias 97 = .ok (.goto 8, 3) := by decide +kernel
theorem d_mo_alias_100 : decode b_mo_alias 100 = .ok (.lload 5, 2) := by decide +kernel
theorem d_mo_alias_102 : decode b_mo_alias 102 = .ok (.lload 7, 2) := by decide +kernel
theorem d_mo_alias_104 : decode b_mo_alias 104 = .ok (.ldiv, 1) := by decide +kernel
theorem d_mo_alias_105 : decode b_mo_alias 105 = .ok (.lreturn, 1) := by decide +kernel
theorem d_mo_count_0 : decode b_mo_count 0 = .ok (.aload_n 0, 1) := by decide +kernel
theorem d_mo_count_1 : decode b_mo_count 1 = .ok (.iload_n 1, 1) := by decide +kernel
theorem d_mo_count_2 : decode b_mo_count 2 = .ok (.ifCond .lt 12, 3) := by decide +kernel
theorem d_mo_count_5 : decode b_mo_count 5 = .ok (.iload_n 1, 1) := by decide +kernel
theorem d_mo_count_6 : decode b_mo_count 6 = .ok (.iconst 4, 1) := by decide +kernel
theorem d_mo_count_7 : decode b_mo_count 7 = .ok (.if_icmp .gt 7, 3) := by decide +kernel
theorem d_mo_count_10 : decode b_mo_count 10 = .ok (.iconst 0, 1) := by decide +kernel
theorem d_mo_count_11 : decode b_mo_count 11 = .ok (.goto 4, 3) := by decide +kernel
theorem d_mo_count_14 : decode b_mo_count 14 = .ok (.iconst 1, 1) := by decide +kernel
theorem d_mo_count_15 : decode b_mo_count 15 = .ok (.putfield 42, 3) := by decide +kernel
theorem d_mo_count_18 : decode b_mo_count 18 = .ok (.iconst 0, 1) := by decide +kernel
theorem d_mo_count_19 : decode b_mo_count 19 = .ok (.istore_n 2, 1) := by decide +kernel
theorem d_mo_count_20 : decode b_mo_count 20 = .ok (.iconst 0, 1) := by decide +kernel
theorem d_mo_count_21 : decode b_mo_count 21 = .ok (.istore_n 3, 1) := by decide +kernel
theorem d_mo_count_22 : decode b_mo_count 22 = .ok (.aload_n 0, 1) := by decide +kernel
theorem d_mo_count_23 : decode b_mo_count 23 = .ok (.getfield 42, 3) := by decide +kernel
theorem d_mo_count_26 : decode b_mo_count 26 = .ok (.ifCond .ne 98, 3) := by decide +kernel
theorem d_mo_count_29 : decode b_mo_count 29 = .ok (.iload_n 3, 1) := by decide +kernel
theorem d_mo_count_30 : decode b_mo_count 30 = .ok (.aload_n 0, 1) := by decide +kernel
theorem d_mo_count_31 : decode b_mo_count 31 = .ok (.getfield 45, 3) := by decide +kernel
theorem d_mo_count_34 : decode b_mo_count 34 = .ok (.if_icmp .ge 90, 3) := by decide +kernel
theorem d_mo_count_37 : decode b_mo_count 37 = .ok (.aload_n 0, 1) := by decide +kernel
theorem d_mo_count_38 : decode b_mo_count 38 = .ok (.getfield 20, 3) := by decide +kernel
theorem d_mo_count_41 : decode b_mo_count 41 = .ok (.iload_n 3, 1) := by decide +kernel
theorem d_mo_count_42 : decode b_mo_count 42 = .ok (.baload, 1) := by decide +kernel
theorem d_mo_count_43 : decode b_mo_count 43 = .ok (.ifCond .ne 75, 3) := by decide +kernel
theorem d_mo_count_46 : decode b_mo_count 46 = .ok (.iload_n 1, 1) := by decide +kernel
theorem d_mo_count_47 : decode b_mo_count 47 = .ok (.ifCond .eq 18, 3) := by decide +kernel
theorem d_mo_count_50 : decode b_mo_count 50 = .ok (.iload_n 1, 1) := by decide +kernel
theorem d_mo_count_51 : decode b_mo_count 51 = .ok (.iconst 1, 1) := by decide +kernel
theorem d_mo_count_52 : decode b_mo_count 52 = .ok (.if_icmp .ne 19, 3) := by decide +kernel
theorem d_mo_count_55 : decode b_mo_count 55 = .ok (.aload_n 0, 1) := by decide +kernel
theorem d_mo_count_56 : decode b_mo_count 56 = .ok (.getfield 23, 3) := by decide +kernel
theorem d_mo_count_59 : decode b_mo_count 59 = .ok (.iload_n 3, 1) := by decide +kernel
theorem d_mo_count_60 : decode b_mo_count 60 = .ok (.iaload, 1) := by decide +kernel
theorem d_mo_count_61 : decode b_mo_count 61 = .ok (.iconst (-1), 1) := by decide +kernel
theorem d_mo_count_62 : decode b_mo_count 62 = .ok (.if_icmp .eq 9, 3) := by decide +kernel
theorem d_mo_count_65 : decode b_mo_count 65 = .ok (.iload_n 2, 1) := by decide +kernel
theorem d_mo_count_66 : decode b_mo_count 66 = .ok (.iconst 1, 1) := by decide +kernel
theorem d_mo_count_67 : decode b_mo_count 67 = .ok (.iadd, 1) := by decide +kernel
theorem d_mo_count_68 : decode b_mo_count 68 = .ok (.goto 4, 3) := by decide +kernel
theorem d_mo_count_71 : decode b_mo_count 71 = .ok (.iload_n 2, 1) := by decide +kernel
theorem d_mo_count_72 : decode b_mo_count 72 = .ok (.istore_n 2, 1) := by decide +kernel
theorem d_mo_count_73 : decode b_mo_count 73 = .ok (.iconst 0, 1) := by decide +kernel
theorem d_mo_count_74 : decode b_mo_count 74 = .ok (.istore 4, 2) := by decide +kernel
theorem d_mo_count_76 : decode b_mo_count 76 = .ok (.iload 4, 2) := by decide +kernel
theorem d_mo_count_78 : decode b_mo_count 78 = .ok (.bipush 32, 2) := by decide +kernel
theorem d_mo_count_80 : decode b_mo_count 80 = .ok (.if_icmp .ge 38, 3) := by decide +kernel
theorem d_mo_count_83 : decode b_mo_count 83 = .ok (.iload_n 1, 1) := by decide +kernel
theorem d_mo_count_84 : decode b_mo_count 84 = .ok (.iconst 2, 1) := by decide +kernel
theorem d_mo_count_85 : decode b_mo_count 85 = .ok (.if_icmp .ne 33, 3) := by decide +kernel
theorem d_mo_count_88 : decode b_mo_count 88 = .ok (.aload_n 0, 1) := by decide +kernel
theorem d_mo_count_89 : decode b_mo_count 89 = .ok (.getfield 7, 3) := by decide +kernel
theorem d_mo_count_92 : decode b_mo_count 92 = .ok (.bipush 32, 2) := by decide +kernel
theorem d_mo_count_94 : decode b_mo_count 94 = .ok (.iload_n 3, 1) := by decide +kernel
theorem d_mo_count_95 : decode b_mo_count 95 = .ok (.imul, 1) := by decide +kernel
theorem d_mo_count_96 : decode b_mo_count 96 = .ok (.iload 4, 2) := by decide +kernel
theorem d_mo_count_98 : decode b_mo_count 98 = .ok (.iadd, 1) := by decide +kernel
theorem d_mo_count_99 : decode b_mo_count 99 = .ok (.iaload, 1) := by decide +kernel
theorem d_mo_count_100 : decode b_mo_count 100 = .ok (.iconst (-1), 1) := by decide +kernel
theorem d_mo_count_101 : decode b_mo_count 101 = .ok (.if_icmp .eq 9, 3) := by decide +kernel
theorem d_mo_count_104 : decode b_mo_count 104 = .ok (.iload_n 2, 1) := by decide +kernel
theorem d_mo_count_105 : decode b_mo_count 105 = .ok (.iconst 1, 1) := by decide +kernel
theorem d_mo_count_106 : decode b_mo_count 106 = .ok (.iadd, 1) := by decide +kernel
theorem d_mo_count_107 : decode b_mo_count 107 = .ok (.goto 4, 3) := by decide +kernel
theorem d_mo_count_110 : decode b_mo_count 110 = .ok (.iload_n 2, 1) := by decide +kernel
theorem d_mo_count_111 : decode b_mo_count 111 = .ok (.istore_n 2, 1) := by decide +kernel
theorem d_mo_count_112 : decode b_mo_count 112 = .ok (.iinc 4 1, 3) := by decide +kernel
theorem d_mo_count_115 : decode b_mo_count 115 = .ok (.goto (-39), 3) := by decide +kernel
theorem d_mo_count_118 : decode b_mo_count 118 = .ok (.iinc 3 1, 3) := by decide +kernel
theorem d_mo_count_121 : decode b_mo_count 121 = .ok (.goto (-99), 3) := by decide +kernel
theorem d_mo_count_124 : decode b_mo_count 124 = .ok (.iconst 0, 1) := by decide +kernel
theorem d_mo_count_125 : decode b_mo_count 125 = .ok (.istore_n 3, 1) := by decide +kernel
theorem d_mo_count_126 : decode b_mo_count 126 = .ok (.iload_n 3, 1) := by decide +kernel
theorem d_mo_count_127 : decode b_mo_count 127 = .ok (.bipush 31, 2) := by decide +kernel
theorem d_mo_count_129 : decode b_mo_count 129 = .ok (.if_icmp .ge 30, 3) := by decide +kernel
theorem d_mo_count_132 : decode b_mo_count 132 = .ok (.iload_n 1, 1) := by decide +kernel
theorem d_mo_count_133 : decode b_mo_count 133 = .ok (.iconst 4, 1) := by decide +kernel
theorem d_mo_count_134 : decode b_mo_count 134 = .ok (.if_icmp .ne 25, 3) := by decide +kernel
theorem d_mo_count_137 : decode b_mo_count 137 = .ok (.aload_n 0, 1) := by decide +kernel
theorem d_mo_count_138 : decode b_mo_count 138 = .ok (.iload_n 3, 1) := by decide +kernel
theorem d_mo_count_139 : decode b_mo_count 139 = .ok (.invokevirtual 67, 3) := by decide +kernel
theorem d_mo_count_142 : decode b_mo_count 142 = .ok (.ifCond .le 9, 3) := by decide +kernel
theorem d_mo_count_145 : decode b_mo_count 145 = .ok (.iload_n 2, 1) := by decide +kernel
theorem d_mo_count_146 : decode b_mo_count 146 = .ok (.iconst 1, 1) := by decide +kernel
theorem d_mo_count_147 : decode b_mo_count 147 = .ok (.iadd, 1) := by decide +kernel
theorem d_mo_count_148 : decode b_mo_count 148 = .ok (.goto 4, 3) := by decide +kernel
theorem d_mo_count_151 : decode b_mo_count 151 = .ok (.iload_n 2, 1) := by decide +kernel
theorem d_mo_count_152 : decode b_mo_count 152 = .ok (.istore_n 2, 1) := by decide +kernel
theorem d_mo_count_153 : decode b_mo_count 153 = .ok (.iinc 3 1, 3) := by decide +kernel
theorem d_mo_count_156 : decode b_mo_count 156 = .ok (.goto (-30), 3) := by decide +kernel
theorem d_mo_count_159 : decode b_mo_count 159 = .ok (.aload_n 0, 1) := by decide +kernel
theorem d_mo_count_160 : decode b_mo_count 160 = .ok (.getfield 42, 3) := by decide +kernel
theorem d_mo_count_163 : decode b_mo_count 163 = .ok (.ifCond .le 7, 3) := by decide +kernel
theorem d_mo_count_166 : decode b_mo_count 166 = .ok (.iconst 0, 1) := by decide +kernel
theorem d_mo_count_167 : decode b_mo_count 167 = .ok (.goto 16, 3) := by decide +kernel
theorem d_mo_count_170 : decode b_mo_count 170 = .ok (.iload_n 1, 1) := by decide +kernel
theorem d_mo_count_171 : decode b_mo_count 171 = .ok (.iconst 3, 1) := by decide +kernel
theorem d_mo_count_172 : decode b_mo_count 172 = .ok (.if_icmp .ne 10, 3) := by decide +kernel
theorem d_mo_count_175 : decode b_mo_count 175 = .ok (.aload_n 0, 1) := by decide +kernel
theorem d_mo_count_176 : decode b_mo_count 176 = .ok (.getfield 39, 3) := by decide +kernel
theorem d_mo_count_179 : decode b_mo_count 179 = .ok (.goto 4, 3) := by decide +kernel
theorem d_mo_count_182 : decode b_mo_count 182 = .ok (.iload_n 2, 1) := by decide +kernel
theorem d_mo_count_183 : decode b_mo_count 183 = .ok (.ireturn, 1) := by decide +kernel
end
section
theorem d_ma_init_0 : decode b_ma_init 0 = .ok (.aload_n 0, 1) := by decide +kernel
theorem d_ma_init_1 : decode b_ma_init 1 = .ok (.invokespecial 3, 3) := by decide +kernel
theorem d_ma_init_4 : decode b_ma_init 4 = .ok (.aload_n 0, 1) := by decide +kernel
theorem d_ma_init_5 : decode b_ma_init 5 = .ok (.aload_n 1, 1) := by decide +kernel
theorem d_ma_init_6 : decode b_ma_init 6 = .ok (.putfield 9, 3) := by decide +kernel
theorem d_ma_init_9 : decode b_ma_init 9 = .ok (.aload_n 0, 1) := by decide +kernel
theorem d_ma_init_10 : decode b_ma_init 10 = .ok (.bipush 48, 2) := by decide +kernel
theorem d_ma_init_12 : decode b_ma_init 12 = .ok (.newarray .long, 2) := by decide +kernel
theorem d_ma_init_14 : decode b_ma_init 14 = .ok (.putfield 15, 3) := by decide +kernel
theorem d_ma_init_17 : decode b_ma_init 17 = .ok (.aload_n 0, 1) := by decide +kernel
theorem d_ma_init_18 : decode b_ma_init 18 = .ok (.bipush 8, 2) := by decide +kernel
theorem d_ma_init_20 : decode b_ma_init 20 = .ok (.putfield 19, 3) := by decide +kernel
theorem d_ma_init_23 : decode b_ma_init 23 = .ok (.aload_n 0, 1) := by decide +kernel
theorem d_ma_init_24 : decode b_ma_init 24 = .ok (.sipush 128, 3) := by decide +kernel
theorem d_ma_init_27 : decode b_ma_init 27 = .ok (.putfield 23, 3) := by decide +kernel
theorem d_ma_init_30 : decode b_ma_init 30 = .ok (.return_, 1) := by decide +kernel
theorem d_ma_restart_0 : decode b_ma_restart 0 = .ok (.aload_n 0, 1) := by decide +kernel
theorem d_ma_restart_1 : decode b_ma_restart 1 = .ok (.iload_n 1, 1) := by decide +kernel
theorem d_ma_restart_2 : decode b_ma_restart 2 = .ok (.putfield 19, 3) := by decide +kernel
theorem d_ma_restart_5 : decode b_ma_restart 5 = .ok (.aload_n 0, 1) := by decide +kernel
theorem d_ma_restart_6 : decode b_ma_restart 6 = .ok (.iconst 1, 1) := by decide +kernel
theorem d_ma_restart_7 : decode b_ma_restart 7 = .ok (.iload_n 1, 1) := by decide +kernel
theorem d_ma_restart_8 : decode b_ma_restart 8 = .ok (.iconst 1, 1) := by decide +kernel
theorem d_ma_restart_9 : decode b_ma_restart 9 = .ok (.isub, 1) := by decide +kernel
theorem d_ma_restart_10 : decode b_ma_restart 10 = .ok (.ishl, 1) := by decide +kernel
theorem d_ma_restart_11 : decode b_ma_restart 11 = .ok (.putfield 23, 3) := by decide +kernel
theorem d_ma_restart_14 : decode b_ma_restart 14 = .ok (.return_, 1) := by decide +kernel
theorem d_ma_isTapped_0 : decode b_ma_isTapped 0 = .ok (.aload_n 0, 1) := by decide +kernel
theorem d_ma_isTapped_1 : decode b_ma_isTapped 1 = .ok (.getfield 23, 3) := by decide +kernel
theorem d_ma_isTapped_4 : decode b_ma_isTapped 4 = .ok (.iconst 1, 1) := by decide +kernel
theorem d_ma_isTapped_5 : decode b_ma_isTapped 5 = .ok (.iload_n 1, 1) := by decide +kernel
theorem d_ma_isTapped_6 : decode b_ma_isTapped 6 = .ok (.ishl, 1) := by decide +kernel
theorem d_ma_isTapped_7 : decode b_ma_isTapped 7 = .ok (.iand, 1) := by decide +kernel
theorem d_ma_isTapped_8 : decode b_ma_isTapped 8 = .ok (.ifCond .eq 7, 3) := by decide +kernel
theorem d_ma_isTapped_11 : decode b_ma_isTapped 11 = .ok (.iconst 1, 1) := by decide +kernel
theorem d_ma_isTapped_12 : decode b_ma_isTapped 12 = .ok (.goto 4, 3) := by decide +kernel
theorem d_ma_isTapped_15 : decode b_ma_isTapped 15 = .ok (.iconst 0, 1) := by decide +kernel
theorem d_ma_isTapped_16 : decode b_ma_isTapped 16 = .ok (.ireturn, 1) := by decide +kernel
theorem d_ma_turnTap_0 : decode b_ma_turnTap 0 = .ok (.aload_n 0, 1) := by decide +kernel
theorem d_ma_turnTap_1 : decode b_ma_turnTap 1 = .ok (.dup, 1) := by decide +kernel
theorem d_ma_turnTap_2 : decode b_ma_turnTap 2 = .ok (.getfield 23, 3) := by decide +kernel
theorem d_ma_turnTap_5 : decode b_ma_turnTap 5 = .ok (.iconst 1, 1) := by decide +kernel
theorem d_ma_turnTap_6 : decode b_ma_turnTap 6 = .ok (.iload_n 1, 1) := by decide +kernel
theorem d_ma_turnTap_7 : decode b_ma_turnTap 7 = .ok (.ishl, 1) := by decide +kernel
theorem d_ma_turnTap_8 : decode b_ma_turnTap 8 = .ok (.ixor, 1) := by decide +kernel
theorem d_ma_turnTap_9 : decode b_ma_turnTap 9 = .ok (.putfield 23, 3) := by decide +kernel
theorem d_ma_turnTap_12 : decode b_ma_turnTap 12 = .ok (.return_, 1) := by decide +kernel
theorem d_ma_step_0 : decode b_ma_step 0 = .ok (.iload_n 1, 1) := by decide +kernel
theorem d_ma_step_1 : decode b_ma_step 1 = .ok (.aload_n 0, 1) := by decide +kernel
theorem d_ma_step_2 : decode b_ma_step 2 = .ok (.getfield 23, 3) := by decide +kernel
theorem d_ma_step_5 : decode b_ma_step 5 = .ok (.iand, 1) := by decide +kernel
theorem d_ma_step_6 : decode b_ma_step 6 = .ok (.invokestatic 26, 3) := by decide +kernel
theorem d_ma_step_9 : decode b_ma_step 9 = .ok (.iconst 1, 1) := by decide +kernel
theorem d_ma_step_10 : decode b_ma_step 10 = .ok (.iand, 1) := by decide +kernel
theorem d_ma_step_11 : decode b_ma_step 11 = .ok (.istore_n 2, 1) := by decide +kernel
theorem d_ma_step_12 : decode b_ma_step 12 = .ok (.iload_n 1, 1) := by decide +kernel
theorem d_ma_step_13 : decode b_ma_step 13 = .ok (.iconst 1, 1) := by decide +kernel
theorem d_ma_step_14 : decode b_ma_step 14 = .ok (.ishl, 1) := by decide +kernel
theorem d_ma_step_15 : decode b_ma_step 15 = .ok (.iload_n 2, 1) := by decide +kernel
theorem d_ma_step_16 : decode b_ma_step 16 = .ok (.ior, 1) := by decide +kernel
theorem d_ma_step_17 : decode b_ma_step 17 = .ok (.iconst 1, 1) := by decide +kernel
theorem d_ma_step_18 : decode b_ma_step 18 = .ok (.aload_n 0, 1) := by decide +kernel
theorem d_ma_step_19 : decode b_ma_step 19 = .ok (.getfield 19, 3) := by decide +kernel
theorem d_ma_step_22 : decode b_ma_step 22 = .ok (.ishl, 1) := by decide +kernel
theorem d_ma_step_23 : decode b_ma_step 23 = .ok (.iconst 1, 1) := by decide +kernel
theorem d_ma_step_24 : decode b_ma_step 24 = .ok (.isub, 1) := by decide +kernel
theorem d_ma_step_25 : decode b_ma_step 25 = .ok (.iand, 1) := by decide +kernel
theorem d_ma_step_26 : decode b_ma_step 26 = .ok (.ireturn, 1) := by decide +kernel
theorem d_ma_stageAround_0 : decode b_ma_stageAround 0 = .ok (.aload_n 0, 1) := by decide +kernel
theorem d_ma_stageAround_1 : decode b_ma_stageAround 1 = .ok (.getfield 19, 3) := by decide +kernel
theorem d_ma_stageAround_4 : decode b_ma_stageAround 4 = .ok (.iconst 1, 1) := by decide +kernel
theorem d_ma_stageAround_5 : decode b_ma_stageAround 5 = .ok (.if_icmp .ge 7, 3) := by decide +kernel
theorem d_ma_stageAround_8 : decode b_ma_stageAround 8 = .ok (.iconst 0, 1) := by decide +kernel
theorem d_ma_stageAround_9 : decode b_ma_stageAround 9 = .ok (.goto 9, 3) := by decide +kernel
theorem d_ma_stageAround_12 : decode b_ma_stageAround 12 = .ok (.iload_n 1, 1) := by decide +kernel
theorem d_ma_stageAround_13 : decode b_ma_stageAround 13 = .ok (.aload_n 0, 1) := by decide +kernel
theorem d_ma_stageAround_14 : decode b_ma_stageAround 14 = .ok (.getfield 19, 3) := by decide +kernel
theorem d_ma_stageAround_17 : decode b_ma_stageAround 17 = .ok (.irem, 1) := by decide +kernel
theorem d_ma_stageAround_18 : decode b_ma_stageAround 18 = .ok (.ireturn, 1) := by decide +kernel
theorem d_ma_make_0 : decode b_ma_make 0 = .ok (.iconst 0, 1) := by decide +kernel
theorem d_ma_make_1 : decode b_ma_make 1 = .ok (.istore_n 2, 1) := by decide +kernel
theorem d_ma_make_2 : decode b_ma_make 2 = .ok (.iload_n 1, 1) := by decide +kernel
theorem d_ma_make_3 : decode b_ma_make 3 = .ok (.istore_n 3, 1) := by decide +kernel
theorem d_ma_make_4 : decode b_ma_make 4 = .ok (.iconst 0, 1) := by decide +kernel
theorem d_ma_make_5 : decode b_ma_make 5 = .ok (.istore 4, 2) := by decide +kernel
theorem d_ma_make_7 : decode b_ma_make 7 = .ok (.iload 4, 2) := by decide +kernel
theorem d_ma_make_9 : decode b_ma_make 9 = .ok (.aload_n 0, 1) := by decide +kernel
theorem d_ma_make_10 : decode b_ma_make 10 = .ok (.getfield 9, 3) := by decide +kernel
theorem d_ma_make_13 : decode b_ma_make 13 = .ok (.getfield 32, 3) := by decide +kernel
theorem d_ma_make_16 : decode b_ma_make 16 = .ok (.if_icmp .ge 73, 3) := by decide +kernel
theorem d_ma_make_19 : decode b_ma_make 19 = .ok (.iconst 0, 1) := by decide +kernel
theorem d_ma_make_20 : decode b_ma_make 20 = .ok (.istore 5, 2) := by decide +kernel
theorem d_ma_make_22 : decode b_ma_make 22 = .ok (.iload 5, 2) := by decide +kernel
theorem d_ma_make_24 : decode b_ma_make 24 = .ok (.aload_n 0, 1) := by decide +kernel
theorem d_ma_make_25 : decode b_ma_make 25 = .ok (.getfield 9, 3) := by decide +kernel
theorem d_ma_make_28 : decode b_ma_make 28 = .ok (.getfield 37, 3) := by decide +kernel
theorem d_ma_make_31 : decode b_ma_make 31 = .ok (.if_icmp .ge 46, 3) := by decide +kernel
theorem d_ma_make_34 : decode b_ma_make 34 = .ok (.iload_n 3, 1) := by decide +kernel
theorem d_ma_make_35 : decode b_ma_make 35 = .ok (.iconst 1, 1) := by decide +kernel
theorem d_ma_make_36 : decode b_ma_make 36 = .ok (.aload_n 0, 1) := by decide +kernel
theorem d_ma_make_37 : decode b_ma_make 37 = .ok (.iconst 5, 1) := by decide +kernel
theorem d_ma_make_38 : decode b_ma_make 38 = .ok (.iload 5, 2) := by decide +kernel
theorem d_ma_make_40 : decode b_ma_make 40 = .ok (.imul, 1) := by decide +kernel
theorem d_ma_make_41 : decode b_ma_make 41 = .ok (.iconst 1, 1) := by decide +kernel
theorem d_ma_make_42 : decode b_ma_make 42 = .ok (.iadd, 1) := by decide +kernel
theorem d_ma_make_43 : decode b_ma_make 43 = .ok (.invokevirtual 40, 3) := by decide +kernel
theorem d_ma_make_46 : decode b_ma_make 46 = .ok (.ishl, 1) := by decide +kernel
theorem d_ma_make_47 : decode b_ma_make 47 = .ok (.iand, 1) := by decide +kernel
theorem d_ma_make_48 : decode b_ma_make 48 = .ok (.ifCond .eq 23, 3) := by decide +kernel
theorem d_ma_make_51 : decode b_ma_make 51 = .ok (.iload_n 2, 1) := by decide +kernel
theorem d_ma_make_52 : decode b_ma_make 52 = .ok (.iload 5, 2) := by decide +kernel
theorem d_ma_make_54 : decode b_ma_make 54 = .ok (.aload_n 0, 1) := by decide +kernel
theorem d_ma_make_55 : decode b_ma_make 55 = .ok (.getfield 9, 3) := by decide +kernel
theorem d_ma_make_58 : decode b_ma_make 58 = .ok (.getfield 32, 3) := by decide +kernel
theorem d_ma_make_61 : decode b_ma_make 61 = .ok (.iconst 1, 1) := by decide +kernel
theorem d_ma_make_62 : decode b_ma_make 62 = .ok (.isub, 1) := by decide +kernel
theorem d_ma_make_63 : decode b_ma_make 63 = .ok (.iload 4, 2) := by decide +kernel
theorem d_ma_make_65 : decode b_ma_make 65 = .ok (.isub, 1) := by decide +kernel
theorem d_ma_make_66 : decode b_ma_make 66 = .ok (.invokestatic 43, 3) := by decide +kernel
theorem d_ma_make_69 : decode b_ma_make 69 = .ok (.ior, 1) := by decide +kernel
theorem d_ma_make_70 : decode b_ma_make 70 = .ok (.istore_n 2, 1) := by decide +kernel
theorem d_ma_make_71 : decode b_ma_make 71 = .ok (.iinc 5 1, 3) := by decide +kernel
theorem d_ma_make_74 : decode b_ma_make 74 = .ok (.goto (-52), 3) := by decide +kernel
theorem d_ma_make_77 : decode b_ma_make 77 = .ok (.aload_n 0, 1) := by decide +kernel
theorem d_ma_make_78 : decode b_ma_make 78 = .ok (.iload_n 3, 1) := by decide +kernel
theorem d_ma_make_79 : decode b_ma_make 79 = .ok (.invokevirtual 47, 3) := by decide +kernel
theorem d_ma_make_82 : decode b_ma_make 82 = .ok (.istore_n 3, 1) := by decide +kernel
theorem d_ma_make_83 : decode b_ma_make 83 = .ok (.iinc 4 1, 3) := by decide +kernel
theorem d_ma_make_86 : decode b_ma_make 86 = .ok (.goto (-79), 3) := by decide +kernel
theorem d_ma_make_89 : decode b_ma_make 89 = .ok (.iload_n 2, 1) := by decide +kernel
theorem d_ma_make_90 : decode b_ma_make 90 = .ok (.ireturn, 1) := by decide +kernel
theorem d_ma_takeIn_0 : decode b_ma_takeIn 0 = .ok (.iload_n 1, 1) := by decide +kernel
theorem d_ma_takeIn_1 : decode b_ma_takeIn 1 = .ok (.istore_n 3, 1) := by decide +kernel
theorem d_ma_takeIn_2 : decode b_ma_takeIn 2 = .ok (.iconst 0, 1) := by decide +kernel
theorem d_ma_takeIn_3 : decode b_ma_takeIn 3 = .ok (.istore 4, 2) := by decide +kernel
theorem d_ma_takeIn_5 : decode b_ma_takeIn 5 = .ok (.iload 4, 2) := by decide +kernel
theorem d_ma_takeIn_7 : decode b_ma_takeIn 7 = .ok (.aload_n 0, 1) := by decide +kernel
theorem d_ma_takeIn_8 : decode b_ma_takeIn 8 = .ok (.getfield 9, 3) := by decide +kernel
theorem d_ma_takeIn_11 : decode b_ma_takeIn 11 = .ok (.getfield 32, 3) := by decide +kernel
theorem d_ma_takeIn_14 : decode b_ma_takeIn 14 = .ok (.if_icmp .ge 69, 3) := by decide +kernel
theorem d_ma_takeIn_17 : decode b_ma_takeIn 17 = .ok (.aload_n 0, 1) := by decide +kernel
theorem d_ma_takeIn_18 : decode b_ma_takeIn 18 = .ok (.iload_n 3, 1) := by decide +kernel
theorem d_ma_takeIn_19 : decode b_ma_takeIn 19 = .ok (.invokevirtual 47, 3) := by decide +kernel
theorem d_ma_takeIn_22 : decode b_ma_takeIn 22 = .ok (.istore_n 3, 1) := by decide +kernel
theorem d_ma_takeIn_23 : decode b_ma_takeIn 23 = .ok (.iconst 0, 1) := by decide +kernel
theorem d_ma_takeIn_24 : decode b_ma_takeIn 24 = .ok (.istore 5, 2) := by decide +kernel
theorem d_ma_takeIn_26 : decode b_ma_takeIn 26 = .ok (.iload 5, 2) := by decide +kernel
theorem d_ma_takeIn_28 : decode b_ma_takeIn 28 = .ok (.aload_n 0, 1) := by decide +kernel
theorem d_ma_takeIn_29 : decode b_ma_takeIn 29 = .ok (.getfield 9, 3) := by decide +kernel
theorem d_ma_takeIn_32 : decode b_ma_takeIn 32 = .ok (.getfield 37, 3) := by decide +kernel
theorem d_ma_takeIn_35 : decode b_ma_takeIn 35 = .ok (.if_icmp .ge 42, 3) := by decide +kernel
theorem d_ma_takeIn_38 : decode b_ma_takeIn 38 = .ok (.iload_n 2, 1) := by decide +kernel
theorem d_ma_takeIn_39 : decode b_ma_takeIn 39 = .ok (.iload 5, 2) := by decide +kernel
theorem d_ma_takeIn_41 : decode b_ma_takeIn 41 = .ok (.aload_n 0, 1) := by decide +kernel
theorem d_ma_takeIn_42 : decode b_ma_takeIn 42 = .ok (.getfield 9, 3) := by decide +kernel
theorem d_ma_takeIn_45 : decode b_ma_takeIn 45 = .ok (.getfield 32, 3) := by decide +kernel
theorem d_ma_takeIn_48 : decode b_ma_takeIn 48 = .ok (.iconst 1, 1) := by decide +kernel
theorem d_ma_takeIn_49 : decode b_ma_takeIn 49 = .ok (.isub, 1) := by decide +kernel
theorem d_ma_takeIn_50 : decode b_ma_takeIn 50 = .ok (.iload 4, 2) := by decide +kernel
theorem d_ma_takeIn_52 : decode b_ma_takeIn 52 = .ok (.isub, 1) := by decide +kernel
theorem d_ma_takeIn_53 : decode b_ma_takeIn 53 = .ok (.invokestatic 43, 3) := by decide +kernel
theorem d_ma_takeIn_56 : decode b_ma_takeIn 56 = .ok (.iand, 1) := by decide +kernel
theorem d_ma_takeIn_57 : decode b_ma_takeIn 57 = .ok (.ifCond .eq 14, 3) := by decide +kernel
theorem d_ma_takeIn_60 : decode b_ma_takeIn 60 = .ok (.iload_n 3, 1) := by decide +kernel
theorem d_ma_takeIn_61 : decode b_ma_takeIn 61 = .ok (.iconst 1, 1) := by decide +kernel
theorem d_ma_takeIn_62 : decode b_ma_takeIn 62 = .ok (.aload_n 0, 1) := by decide +kernel
theorem d_ma_takeIn_63 : decode b_ma_takeIn 63 = .ok (.iload 5, 2) := by decide +kernel
theorem d_ma_takeIn_65 : decode b_ma_takeIn 65 = .ok (.invokevirtual 40, 3) := by decide +kernel
theorem d_ma_takeIn_68 : decode b_ma_takeIn 68 = .ok (.ishl, 1) := by decide +kernel
theorem d_ma_takeIn_69 : decode b_ma_takeIn 69 = .ok (.ixor, 1) := by decide +kernel
theorem d_ma_takeIn_70 : decode b_ma_takeIn 70 = .ok (.istore_n 3, 1) := by decide +kernel
theorem d_ma_takeIn_71 : decode b_ma_takeIn 71 = .ok (.iinc 5 1, 3) := by decide +kernel
theorem d_ma_takeIn_74 : decode b_ma_takeIn 74 = .ok (.goto (-48), 3) := by decide +kernel
theorem d_ma_takeIn_77 : decode b_ma_takeIn 77 = .ok (.iinc 4 1, 3) := by decide +kernel
theorem d_ma_takeIn_80 : decode b_ma_takeIn 80 = .ok (.goto (-75), 3) := by decide +kernel
theorem d_ma_takeIn_83 : decode b_ma_takeIn 83 = .ok (.iload_n 3, 1) := by decide +kernel
theorem d_ma_takeIn_84 : decode b_ma_takeIn 84 = .ok (.ireturn, 1) := by decide +kernel
theorem d_ma_hasLongestCycle_0 : decode b_ma_hasLongestCycle 0 = .ok (.iconst 1, 1) := by decide +kernel
theorem d_ma_hasLongestCycle_1 : decode b_ma_hasLongestCycle 1 = .ok (.aload_n 0, 1) := by decide +kernel
theorem d_ma_hasLongestCycle_2 : decode b_ma_hasLongestCycle 2 = .ok (.getfield 19, 3) := by decide +kernel
theorem d_ma_hasLongestCycle_5 : decode b_ma_hasLongestCycle 5 = .ok (.ishl, 1) := by decide +kernel
theorem d_ma_hasLongestCycle_6 : decode b_ma_hasLongestCycle 6 = .ok (.iconst 1, 1) := by decide +kernel
theorem d_ma_hasLongestCycle_7 : decode b_ma_hasLongestCycle 7 = .ok (.isub, 1) := by decide +kernel
theorem d_ma_hasLongestCycle_8 : decode b_ma_hasLongestCycle 8 = .ok (.istore_n 1, 1) := by decide +kernel
theorem d_ma_hasLongestCycle_9 : decode b_ma_hasLongestCycle 9 = .ok (.iconst 1, 1) := by decide +kernel
theorem d_ma_hasLongestCycle_10 : decode b_ma_hasLongestCycle 10 = .ok (.istore_n 2, 1) := by decide +kernel
theorem d_ma_hasLongestCycle_11 : decode b_ma_hasLongestCycle 11 = .ok (.iconst 1, 1) := by decide +kernel
theorem d_ma_hasLongestCycle_12 : decode b_ma_hasLongestCycle 12 = .ok (.istore_n 3, 1) := by decide +kernel
theorem d_ma_hasLongestCycle_13 : decode b_ma_hasLongestCycle 13 = .ok (.iload_n 3, 1) := by decide +kernel
theorem d_ma_hasLongestCycle_14 : decode b_ma_hasLongestCycle 14 = .ok (.iload_n 1, 1) := by decide +kernel
theorem d_ma_hasLongestCycle_15 : decode b_ma_hasLongestCycle 15 = .ok (.if_icmp .ge 22, 3) := by decide +kernel
theorem d_ma_hasLongestCycle_18 : decode b_ma_hasLongestCycle 18 = .ok (.aload_n 0, 1) := by decide +kernel
theorem d_ma_hasLongestCycle_19 : decode b_ma_hasLongestCycle 19 = .ok (.iload_n 2, 1) := by decide +kernel
theorem d_ma_hasLongestCycle_20 : decode b_ma_hasLongestCycle 20 = .ok (.invokevirtual 47, 3) := by decide +kernel
theorem d_ma_hasLongestCycle_23 : decode b_ma_hasLongestCycle 23 = .ok (.istore_n 2, 1) := by decide +kernel
theorem d_ma_hasLongestCycle_24 : decode b_ma_hasLongestCycle 24 = .ok (.iload_n 2, 1) := by decide +kernel
theorem d_ma_hasLongestCycle_25 : decode b_ma_hasLongestCycle 25 = .ok (.iconst 1, 1) := by decide +kernel
theorem d_ma_hasLongestCycle_26 : decode b_ma_hasLongestCycle 26 = .ok (.if_icmp .ne 5, 3) := by decide +kernel
theorem d_ma_hasLongestCycle_29 : decode b_ma_hasLongestCycle 29 = .ok (.iconst 0, 1) := by decide +kernel
theorem d_ma_hasLongestCycle_30 : decode b_ma_hasLongestCycle 30 = .ok (.ireturn, 1) := by decide +kernel
theorem d_ma_hasLongestCycle_31 : decode b_ma_hasLongestCycle 31 = .ok (.iinc 3 1, 3) := by decide +kernel
theorem d_ma_hasLongestCycle_34 : decode b_ma_hasLongestCycle 34 = .ok (.goto (-21), 3) := by decide +kernel
theorem d_ma_hasLongestCycle_37 : decode b_ma_hasLongestCycle 37 = .ok (.aload_n 0, 1) := by decide +kernel
theorem d_ma_hasLongestCycle_38 : decode b_ma_hasLongestCycle 38 = .ok (.iload_n 2, 1) := by decide +kernel
theorem d_ma_hasLongestCycle_39 : decode b_ma_hasLongestCycle 39 = .ok (.invokevirtual 47, 3) := by decide +kernel
theorem d_ma_hasLongestCycle_42 : decode b_ma_hasLongestCycle 42 = .ok (.iconst 1, 1) := by decide +kernel
theorem d_ma_hasLongestCycle_43 : decode b_ma_hasLongestCycle 43 = .ok (.if_icmp .ne 7, 3) := by decide +kernel
theorem d_ma_hasLongestCycle_46 : decode b_ma_hasLongestCycle 46 = .ok (.iconst 1, 1) := by decide +kernel
theorem d_ma_hasLongestCycle_47 : decode b_ma_hasLongestCycle 47 = .ok (.goto 4, 3) := by decide +kernel
theorem d_ma_hasLongestCycle_50 : decode b_ma_hasLongestCycle 50 = .ok (.iconst 0, 1) := by decide +kernel
theorem d_ma_hasLongestCycle_51 : decode b_ma_hasLongestCycle 51 = .ok (.ireturn, 1) := by decide +kernel
theorem d_ma_leastSeed_0 : decode b_ma_leastSeed 0 = .ok (.iconst 0, 1) := by decide +kernel
theorem d_ma_leastSeed_1 : decode b_ma_leastSeed 1 = .ok (.istore_n 3, 1) := by decide +kernel
theorem d_ma_leastSeed_2 : decode b_ma_leastSeed 2 = .ok (.iload_n 3, 1) := by decide +kernel
theorem d_ma_leastSeed_3 : decode b_ma_leastSeed 3 = .ok (.aload_n 0, 1) := by decide +kernel
theorem d_ma_leastSeed_4 : decode b_ma_leastSeed 4 = .ok (.getfield 15, 3) := by decide +kernel
theorem d_ma_leastSeed_7 : decode b_ma_leastSeed 7 = .ok (.arraylength, 1) := by decide +kernel
theorem d_ma_leastSeed_8 : decode b_ma_leastSeed 8 = .ok (.if_icmp .ge 16, 3) := by decide +kernel
theorem d_ma_leastSeed_11 : decode b_ma_leastSeed 11 = .ok (.aload_n 0, 1) := by decide +kernel
theorem d_ma_leastSeed_12 : decode b_ma_leastSeed 12 = .ok (.getfield 15, 3) := by decide +kernel
theorem d_ma_leastSeed_15 : decode b_ma_leastSeed 15 = .ok (.iload_n 3, 1) := by decide +kernel
theorem d_ma_leastSeed_16 : decode b_ma_leastSeed 16 = .ok (.lconst 0, 1) := by decide +kernel
theorem d_ma_leastSeed_17 : decode b_ma_leastSeed 17 = .ok (.lastore, 1) := by decide +kernel
theorem d_ma_leastSeed_18 : decode b_ma_leastSeed 18 = .ok (.iinc 3 1, 3) := by decide +kernel
theorem d_ma_leastSeed_21 : decode b_ma_leastSeed 21 = .ok (.goto (-19), 3) := by decide +kernel
theorem d_ma_leastSeed_24 : decode b_ma_leastSeed 24 = .ok (.iconst 0, 1) := by decide +kernel
theorem d_ma_leastSeed_25 : decode b_ma_leastSeed 25 = .ok (.istore_n 3, 1) := by decide +kernel
theorem d_ma_leastSeed_26 : decode b_ma_leastSeed 26 = .ok (.iload_n 3, 1) := by decide +kernel
theorem d_ma_leastSeed_27 : decode b_ma_leastSeed 27 = .ok (.aload_n 0, 1) := by decide +kernel
theorem d_ma_leastSeed_28 : decode b_ma_leastSeed 28 = .ok (.getfield 19, 3) := by decide +kernel
theorem d_ma_leastSeed_31 : decode b_ma_leastSeed 31 = .ok (.if_icmp .ge 32, 3) := by decide +kernel
theorem d_ma_leastSeed_34 : decode b_ma_leastSeed 34 = .ok (.aload_n 0, 1) := by decide +kernel
theorem d_ma_leastSeed_35 : decode b_ma_leastSeed 35 = .ok (.aload_n 0, 1) := by decide +kernel
theorem d_ma_leastSeed_36 : decode b_ma_leastSeed 36 = .ok (.aload_n 0, 1) := by decide +kernel
theorem d_ma_leastSeed_37 : decode b_ma_leastSeed 37 = .ok (.iconst 1, 1) := by decide +kernel
theorem d_ma_leastSeed_38 : decode b_ma_leastSeed 38 = .ok (.iload_n 3, 1) := by decide +kernel
theorem d_ma_leastSeed_39 : decode b_ma_leastSeed 39 = .ok (.ishl, 1) := by decide +kernel
theorem d_ma_leastSeed_40 : decode b_ma_leastSeed 40 = .ok (.invokevirtual 50, 3) := by decide +kernel
theorem d_ma_leastSeed_43 : decode b_ma_leastSeed 43 = .ok (.iload_n 1, 1) := by decide +kernel
theorem d_ma_leastSeed_44 : decode b_ma_leastSeed 44 = .ok (.iand, 1) := by decide +kernel
theorem d_ma_leastSeed_45 : decode b_ma_leastSeed 45 = .ok (.iconst 1, 1) := by decide +kernel
theorem d_ma_leastSeed_46 : decode b_ma_leastSeed 46 = .ok (.iload_n 3, 1) := by decide +kernel
theorem d_ma_leastSeed_47 : decode b_ma_leastSeed 47 = .ok (.ishl, 1) := by decide +kernel
theorem d_ma_leastSeed_48 : decode b_ma_leastSeed 48 = .ok (.invokestatic 53, 3) := by decide +kernel
theorem d_ma_leastSeed_51 : decode b_ma_leastSeed 51 = .ok (.invokevirtual 57, 3) := by decide +kernel
theorem d_ma_leastSeed_54 : decode b_ma_leastSeed 54 = .ok (.invokevirtual 61, 3) := by decide +kernel
theorem d_ma_leastSeed_57 : decode b_ma_leastSeed 57 = .ok (.iinc 3 1, 3) := by decide +kernel
theorem d_ma_leastSeed_60 : decode b_ma_leastSeed 60 = .ok (.goto (-34), 3) := by decide +kernel
theorem d_ma_leastSeed_63 : decode b_ma_leastSeed 63 = .ok (.aload_n 0, 1) := by decide +kernel
theorem d_ma_leastSeed_64 : decode b_ma_leastSeed 64 = .ok (.iload_n 2, 1) := by decide +kernel
theorem d_ma_leastSeed_65 : decode b_ma_leastSeed 65 = .ok (.iconst 0, 1) := by decide +kernel
theorem d_ma_leastSeed_66 : decode b_ma_leastSeed 66 = .ok (.invokestatic 53, 3) := by decide +kernel
theorem d_ma_leastSeed_69 : decode b_ma_leastSeed 69 = .ok (.invokevirtual 57, 3) := by decide +kernel
theorem d_ma_leastSeed_72 : decode b_ma_leastSeed 72 = .ok (.lstore_n 3, 1) := by decide +kernel
theorem d_ma_leastSeed_73 : decode b_ma_leastSeed 73 = .ok (.lload_n 3, 1) := by decide +kernel
theorem d_ma_leastSeed_74 : decode b_ma_leastSeed 74 = .ok (.invokestatic 65, 3) := by decide +kernel
theorem d_ma_leastSeed_77 : decode b_ma_leastSeed 77 = .ok (.lconst 0, 1) := by decide +kernel
theorem d_ma_leastSeed_78 : decode b_ma_leastSeed 78 = .ok (.lcmp, 1) := by decide +kernel
theorem d_ma_leastSeed_79 : decode b_ma_leastSeed 79 = .ok (.ifCond .eq 7, 3) := by decide +kernel
theorem d_ma_leastSeed_82 : decode b_ma_leastSeed 82 = .ok (.iconst (-1), 1) := by decide +kernel
theorem d_ma_leastSeed_83 : decode b_ma_leastSeed 83 = .ok (.goto 5, 3) := by decide +kernel
theorem d_ma_leastSeed_86 : decode b_ma_leastSeed 86 = .ok (.lload_n 3, 1) := by decide +kernel
theorem d_ma_leastSeed_87 : decode b_ma_leastSeed 87 = .ok (.l2i, 1) := by decide +kernel
theorem d_ma_leastSeed_88 : decode b_ma_leastSeed 88 = .ok (.ireturn, 1) := by decide +kernel
theorem d_ma_row_0 : decode b_ma_row 0 = .ok (.iload_n 0, 1) := by decide +kernel
theorem d_ma_row_1 : decode b_ma_row 1 = .ok (.i2l, 1) := by decide +kernel
theorem d_ma_row_2 : decode b_ma_row 2 = .ok (.bipush 16, 2) := by decide +kernel
theorem d_ma_row_4 : decode b_ma_row 4 = .ok (.lshl, 1) := by decide +kernel
theorem d_ma_row_5 : decode b_ma_row 5 = .ok (.iload_n 1, 1) := by decide +kernel
theorem d_ma_row_6 : decode b_ma_row 6 = .ok (.i2l, 1) := by decide +kernel
theorem d_ma_row_7 : decode b_ma_row 7 = .ok (.lor, 1) := by decide +kernel
theorem d_ma_row_8 : decode b_ma_row 8 = .ok (.lreturn, 1) := by decide +kernel
theorem d_ma_cellsOf_0 : decode b_ma_cellsOf 0 = .ok (.lload_n 0, 1) := by decide +kernel
theorem d_ma_cellsOf_1 : decode b_ma_cellsOf 1 = .ok (.bipush 16, 2) := by decide +kernel
theorem d_ma_cellsOf_3 : decode b_ma_cellsOf 3 = .ok (.lshr, 1) := by decide +kernel
theorem d_ma_cellsOf_4 : decode b_ma_cellsOf 4 = .ok (.lreturn, 1) := by decide +kernel
theorem d_ma_reduced_0 : decode b_ma_reduced 0 = .ok (.lload_n 1, 1) := by decide +kernel
theorem d_ma_reduced_1 : decode b_ma_reduced 1 = .ok (.lstore_n 3, 1) := by decide +kernel
theorem d_ma_reduced_2 : decode b_ma_reduced 2 = .ok (.aload_n 0, 1) := by decide +kernel
theorem d_ma_reduced_3 : decode b_ma_reduced 3 = .ok (.getfield 15, 3) := by decide +kernel
theorem d_ma_reduced_6 : decode b_ma_reduced 6 = .ok (.arraylength, 1) := by decide +kernel
theorem d_ma_reduced_7 : decode b_ma_reduced 7 = .ok (.iconst 1, 1) := by decide +kernel
theorem d_ma_reduced_8 : decode b_ma_reduced 8 = .ok (.isub, 1) := by decide +kernel
theorem d_ma_reduced_9 : decode b_ma_reduced 9 = .ok (.istore 5, 2) := by decide +kernel
theorem d_ma_reduced_11 : decode b_ma_reduced 11 = .ok (.iload 5, 2) := by decide +kernel
theorem d_ma_reduced_13 : decode b_ma_reduced 13 = .ok (.bipush 16, 2) := by decide +kernel
theorem d_ma_reduced_15 : decode b_ma_reduced 15 = .ok (.if_icmp .lt 30, 3) := by decide +kernel
theorem d_ma_reduced_18 : decode b_ma_reduced 18 = .ok (.lload_n 3, 1) := by decide +kernel
theorem d_ma_reduced_19 : decode b_ma_reduced 19 = .ok (.iload 5, 2) := by decide +kernel
theorem d_ma_reduced_21 : decode b_ma_reduced 21 = .ok (.lshr, 1) := by decide +kernel
theorem d_ma_reduced_22 : decode b_ma_reduced 22 = .ok (.lconst 1, 1) := by decide +kernel
theorem d_ma_reduced_23 : decode b_ma_reduced 23 = .ok (.land, 1) := by decide +kernel
theorem d_ma_reduced_24 : decode b_ma_reduced 24 = .ok (.lconst 0, 1) := by decide +kernel
theorem d_ma_reduced_25 : decode b_ma_reduced 25 = .ok (.lcmp, 1) := by decide +kernel
theorem d_ma_reduced_26 : decode b_ma_reduced 26 = .ok (.ifCond .eq 13, 3) := by decide +kernel
theorem d_ma_reduced_29 : decode b_ma_reduced 29 = .ok (.lload_n 3, 1) := by decide +kernel
theorem d_ma_reduced_30 : decode b_ma_reduced 30 = .ok (.aload_n 0, 1) := by decide +kernel
theorem d_ma_reduced_31 : decode b_ma_reduced 31 = .ok (.getfield 15, 3) := by decide +kernel
theorem d_ma_reduced_34 : decode b_ma_reduced 34 = .ok (.iload 5, 2) := by decide +kernel
theorem d_ma_reduced_36 : decode b_ma_reduced 36 = .ok (.laload, 1) := by decide +kernel
theorem d_ma_reduced_37 : decode b_ma_reduced 37 = .ok (.lxor, 1) := by decide +kernel
theorem d_ma_reduced_38 : decode b_ma_reduced 38 = .ok (.lstore_n 3, 1) := by decide +kernel
theorem d_ma_reduced_39 : decode b_ma_reduced 39 = .ok (.iinc 5 (-1), 3) := by decide +kernel
theorem d_ma_reduced_42 : decode b_ma_reduced 42 = .ok (.goto (-31), 3) := by decide +kernel
theorem d_ma_reduced_45 : decode b_ma_reduced 45 = .ok (.lload_n 3, 1) := by decide +kernel
theorem d_ma_reduced_46 : decode b_ma_reduced 46 = .ok (.lreturn, 1) := by decide +kernel
theorem d_ma_keep_0 : decode b_ma_keep 0 = .ok (.aload_n 0, 1) := by decide +kernel
theorem d_ma_keep_1 : decode b_ma_keep 1 = .ok (.getfield 15, 3) := by decide +kernel
theorem d_ma_keep_4 : decode b_ma_keep 4 = .ok (.arraylength, 1) := by decide +kernel
theorem d_ma_keep_5 : decode b_ma_keep 5 = .ok (.iconst 1, 1) := by decide +kernel
theorem d_ma_keep_6 : decode b_ma_keep 6 = .ok (.isub, 1) := by decide +kernel
theorem d_ma_keep_7 : decode b_ma_keep 7 = .ok (.istore_n 3, 1) := by decide +kernel
theorem d_ma_keep_8 : decode b_ma_keep 8 = .ok (.iload_n 3, 1) := by decide +kernel
theorem d_ma_keep_9 : decode b_ma_keep 9 = .ok (.bipush 16, 2) := by decide +kernel
theorem d_ma_keep_11 : decode b_ma_keep 11 = .ok (.if_icmp .lt 27, 3) := by decide +kernel
theorem d_ma_keep_14 : decode b_ma_keep 14 = .ok (.lload_n 1, 1) := by decide +kernel
theorem d_ma_keep_15 : decode b_ma_keep 15 = .ok (.iload_n 3, 1) := by decide +kernel
theorem d_ma_keep_16 : decode b_ma_keep 16 = .ok (.lshr, 1) := by decide +kernel
theorem d_ma_keep_17 : decode b_ma_keep 17 = .ok (.lconst 1, 1) := by decide +kernel
theorem d_ma_keep_18 : decode b_ma_keep 18 = .ok (.land, 1) := by decide +kernel
theorem d_ma_keep_19 : decode b_ma_keep 19 = .ok (.lconst 0, 1) := by decide +kernel
theorem d_ma_keep_20 : decode b_ma_keep 20 = .ok (.lcmp, 1) := by decide +kernel
theorem d_ma_keep_21 : decode b_ma_keep 21 = .ok (.ifCond .eq 11, 3) := by decide +kernel
theorem d_ma_keep_24 : decode b_ma_keep 24 = .ok (.aload_n 0, 1) := by decide +kernel
theorem d_ma_keep_25 : decode b_ma_keep 25 = .ok (.getfield 15, 3) := by decide +kernel
theorem d_ma_keep_28 : decode b_ma_keep 28 = .ok (.iload_n 3, 1) := by decide +kernel
theorem d_ma_keep_29 : decode b_ma_keep 29 = .ok (.lload_n 1, 1) := by decide +kernel
theorem d_ma_keep_30 : decode b_ma_keep 30 = .ok (.lastore, 1) := by decide +kernel
theorem d_ma_keep_31 : decode b_ma_keep 31 = .ok (.return_, 1) := by decide +kernel
theorem d_ma_keep_32 : decode b_ma_keep 32 = .ok (.iinc 3 (-1), 3) := by decide +kernel
theorem d_ma_keep_35 : decode b_ma_keep 35 = .ok (.goto (-27), 3) := by decide +kernel
theorem d_ma_keep_38 : decode b_ma_keep 38 = .ok (.return_, 1) := by decide +kernel
theorem d_pt_init_0 : decode b_pt_init 0 = .ok (.aload_n 0, 1) := by decide +kernel
theorem d_pt_init_1 : decode b_pt_init 1 = .ok (.invokespecial 3, 3) := by decide +kernel
theorem d_pt_init_4 : decode b_pt_init 4 = .ok (.aload_n 0, 1) := by decide +kernel
theorem d_pt_init_5 : decode b_pt_init 5 = .ok (.iconst 0, 1) := by decide +kernel
theorem d_pt_init_6 : decode b_pt_init 6 = .ok (.putfield 9, 3) := by decide +kernel
theorem d_pt_init_9 : decode b_pt_init 9 = .ok (.aload_n 0, 1) := by decide +kernel
theorem d_pt_init_10 : decode b_pt_init 10 = .ok (.iconst 0, 1) := by decide +kernel
theorem d_pt_init_11 : decode b_pt_init 11 = .ok (.putfield 15, 3) := by decide +kernel
theorem d_pt_init_14 : decode b_pt_init 14 = .ok (.aload_n 0, 1) := by decide +kernel
theorem d_pt_init_15 : decode b_pt_init 15 = .ok (.iconst 0, 1) := by decide +kernel
theorem d_pt_init_16 : decode b_pt_init 16 = .ok (.putfield 18, 3) := by decide +kernel
theorem d_pt_init_19 : decode b_pt_init 19 = .ok (.aload_n 0, 1) := by decide +kernel
theorem d_pt_init_20 : decode b_pt_init 20 = .ok (.iconst 0, 1) := by decide +kernel
theorem d_pt_init_21 : decode b_pt_init 21 = .ok (.putfield 21, 3) := by decide +kernel
theorem d_pt_init_24 : decode b_pt_init 24 = .ok (.aload_n 0, 1) := by decide +kernel
theorem d_pt_init_25 : decode b_pt_init 25 = .ok (.iconst (-1), 1) := by decide +kernel
theorem d_pt_init_26 : decode b_pt_init 26 = .ok (.putfield 24, 3) := by decide +kernel
theorem d_pt_init_29 : decode b_pt_init 29 = .ok (.aload_n 0, 1) := by decide +kernel
theorem d_pt_init_30 : decode b_pt_init 30 = .ok (.iconst 0, 1) := by decide +kernel
theorem d_pt_init_31 : decode b_pt_init 31 = .ok (.putfield 27, 3) := by decide +kernel
theorem d_pt_init_34 : decode b_pt_init 34 = .ok (.return_, 1) := by decide +kernel
theorem d_pt_careAt_0 : decode b_pt_careAt 0 = .ok (.aload_n 0, 1) := by decide +kernel
theorem d_pt_careAt_1 : decode b_pt_careAt 1 = .ok (.getfield 9, 3) := by decide +kernel
theorem d_pt_careAt_4 : decode b_pt_careAt 4 = .ok (.iload_n 1, 1) := by decide +kernel
theorem d_pt_careAt_5 : decode b_pt_careAt 5 = .ok (.iand, 1) := by decide +kernel
theorem d_pt_careAt_6 : decode b_pt_careAt 6 = .ok (.ifCond .ne 5, 3) := by decide +kernel
theorem d_pt_careAt_9 : decode b_pt_careAt 9 = .ok (.iconst (-1), 1) := by decide +kernel
theorem d_pt_careAt_10 : decode b_pt_careAt 10 = .ok (.ireturn, 1) := by decide +kernel
theorem d_pt_careAt_11 : decode b_pt_careAt 11 = .ok (.aload_n 0, 1) := by decide +kernel
theorem d_pt_careAt_12 : decode b_pt_careAt 12 = .ok (.getfield 15, 3) := by decide +kernel
theorem d_pt_careAt_15 : decode b_pt_careAt 15 = .ok (.iload_n 1, 1) := by decide +kernel
theorem d_pt_careAt_16 : decode b_pt_careAt 16 = .ok (.iand, 1) := by decide +kernel
theorem d_pt_careAt_17 : decode b_pt_careAt 17 = .ok (.ifCond .eq 7, 3) := by decide +kernel
theorem d_pt_careAt_20 : decode b_pt_careAt 20 = .ok (.iconst 1, 1) := by decide +kernel
theorem d_pt_careAt_21 : decode b_pt_careAt 21 = .ok (.goto 4, 3) := by decide +kernel
theorem d_pt_careAt_24 : decode b_pt_careAt 24 = .ok (.iconst 0, 1) := by decide +kernel
theorem d_pt_careAt_25 : decode b_pt_careAt 25 = .ok (.ireturn, 1) := by decide +kernel
theorem d_pt_setCare_0 : decode b_pt_setCare 0 = .ok (.aload_n 0, 1) := by decide +kernel
theorem d_pt_setCare_1 : decode b_pt_setCare 1 = .ok (.iload_n 1, 1) := by decide +kernel
theorem d_pt_setCare_2 : decode b_pt_setCare 2 = .ok (.invokevirtual 31, 3) := by decide +kernel
theorem d_pt_setCare_5 : decode b_pt_setCare 5 = .ok (.iload_n 2, 1) := by decide +kernel
theorem d_pt_setCare_6 : decode b_pt_setCare 6 = .ok (.if_icmp .ne 5, 3) := by decide +kernel
theorem d_pt_setCare_9 : decode b_pt_setCare 9 = .ok (.iconst 0, 1) := by decide +kernel
theorem d_pt_setCare_10 : decode b_pt_setCare 10 = .ok (.ireturn, 1) := by decide +kernel
theorem d_pt_setCare_11 : decode b_pt_setCare 11 = .ok (.aload_n 0, 1) := by decide +kernel
theorem d_pt_setCare_12 : decode b_pt_setCare 12 = .ok (.iload_n 2, 1) := by decide +kernel
theorem d_pt_setCare_13 : decode b_pt_setCare 13 = .ok (.iconst (-1), 1) := by decide +kernel
theorem d_pt_setCare_14 : decode b_pt_setCare 14 = .ok (.if_icmp .ne 14, 3) := by decide +kernel
theorem d_pt_setCare_17 : decode b_pt_setCare 17 = .ok (.aload_n 0, 1) := by decide +kernel
theorem d_pt_setCare_18 : decode b_pt_setCare 18 = .ok (.getfield 9, 3) := by decide +kernel
theorem d_pt_setCare_21 : decode b_pt_setCare 21 = .ok (.iload_n 1, 1) := by decide +kernel
theorem d_pt_setCare_22 : decode b_pt_setCare 22 = .ok (.iconst (-1), 1) := by decide +kernel
theorem d_pt_setCare_23 : decode b_pt_setCare 23 = .ok (.ixor, 1) := by decide +kernel
theorem d_pt_setCare_24 : decode b_pt_setCare 24 = .ok (.iand, 1) := by decide +kernel
theorem d_pt_setCare_25 : decode b_pt_setCare 25 = .ok (.goto 9, 3) := by decide +kernel
theorem d_pt_setCare_28 : decode b_pt_setCare 28 = .ok (.aload_n 0, 1) := by decide +kernel
theorem d_pt_setCare_29 : decode b_pt_setCare 29 = .ok (.getfield 9, 3) := by decide +kernel
theorem d_pt_setCare_32 : decode b_pt_setCare 32 = .ok (.iload_n 1, 1) := by decide +kernel
theorem d_pt_setCare_33 : decode b_pt_setCare 33 = .ok (.ior, 1) := by decide +kernel
theorem d_pt_setCare_34 : decode b_pt_setCare 34 = .ok (.putfield 9, 3) := by decide +kernel
theorem d_pt_setCare_37 : decode b_pt_setCare 37 = .ok (.aload_n 0, 1) := by decide +kernel
theorem d_pt_setCare_38 : decode b_pt_setCare 38 = .ok (.iload_n 2, 1) := by decide +kernel
theorem d_pt_setCare_39 : decode b_pt_setCare 39 = .ok (.iconst 1, 1) := by decide +kernel
theorem d_pt_setCare_40 : decode b_pt_setCare 40 = .ok (.if_icmp .ne 12, 3) := by decide +kernel
theorem d_pt_setCare_43 : decode b_pt_setCare 43 = .ok (.aload_n 0, 1) := by decide +kernel
theorem d_pt_setCare_44 : decode b_pt_setCare 44 = .ok (.getfield 15, 3) := by decide +kernel
theorem d_pt_setCare_47 : decode b_pt_setCare 47 = .ok (.iload_n 1, 1) := by decide +kernel
theorem d_pt_setCare_48 : decode b_pt_setCare 48 = .ok (.ior, 1) := by decide +kernel
theorem d_pt_setCare_49 : decode b_pt_setCare 49 = .ok (.goto 11, 3) := by decide +kernel
theorem d_pt_setCare_52 : decode b_pt_setCare 52 = .ok (.aload_n 0, 1) := by decide +kernel
theorem d_pt_setCare_53 : decode b_pt_setCare 53 = .ok (.getfield 15, 3) := by decide +kernel
theorem d_pt_setCare_56 : decode b_pt_setCare 56 = .ok (.iload_n 1, 1) := by decide +kernel
theorem d_pt_setCare_57 : decode b_pt_setCare 57 = .ok (.iconst (-1), 1) := by decide +kernel
theorem d_pt_setCare_58 : decode b_pt_setCare 58 = .ok (.ixor, 1) := by decide +kernel
theorem d_pt_setCare_59 : decode b_pt_setCare 59 = .ok (.iand, 1) := by decide +kernel
theorem d_pt_setCare_60 : decode b_pt_setCare 60 = .ok (.putfield 15, 3) := by decide +kernel
theorem d_pt_setCare_63 : decode b_pt_setCare 63 = .ok (.aload_n 0, 1) := by decide +kernel
theorem d_pt_setCare_64 : decode b_pt_setCare 64 = .ok (.iconst (-1), 1) := by decide +kernel
theorem d_pt_setCare_65 : decode b_pt_setCare 65 = .ok (.putfield 24, 3) := by decide +kernel
theorem d_pt_setCare_68 : decode b_pt_setCare 68 = .ok (.iconst 1, 1) := by decide +kernel
theorem d_pt_setCare_69 : decode b_pt_setCare 69 = .ok (.ireturn, 1) := by decide +kernel
theorem d_pt_goesWith_0 : decode b_pt_goesWith 0 = .ok (.aload_n 0, 1) := by decide +kernel
theorem d_pt_goesWith_1 : decode b_pt_goesWith 1 = .ok (.getfield 9, 3) := by decide +kernel
theorem d_pt_goesWith_4 : decode b_pt_goesWith 4 = .ok (.aload_n 1, 1) := by decide +kernel
theorem d_pt_goesWith_5 : decode b_pt_goesWith 5 = .ok (.getfield 9, 3) := by decide +kernel
theorem d_pt_goesWith_8 : decode b_pt_goesWith 8 = .ok (.iand, 1) := by decide +kernel
theorem d_pt_goesWith_9 : decode b_pt_goesWith 9 = .ok (.aload_n 0, 1) := by decide +kernel
theorem d_pt_goesWith_10 : decode b_pt_goesWith 10 = .ok (.getfield 15, 3) := by decide +kernel
theorem d_pt_goesWith_13 : decode b_pt_goesWith 13 = .ok (.aload_n 1, 1) := by decide +kernel
theorem d_pt_goesWith_14 : decode b_pt_goesWith 14 = .ok (.getfield 15, 3) := by decide +kernel
theorem d_pt_goesWith_17 : decode b_pt_goesWith 17 = .ok (.ixor, 1) := by decide +kernel
theorem d_pt_goesWith_18 : decode b_pt_goesWith 18 = .ok (.iand, 1) := by decide +kernel
theorem d_pt_goesWith_19 : decode b_pt_goesWith 19 = .ok (.ifCond .ne 7, 3) := by decide +kernel
theorem d_pt_goesWith_22 : decode b_pt_goesWith 22 = .ok (.iconst 1, 1) := by decide +kernel
theorem d_pt_goesWith_23 : decode b_pt_goesWith 23 = .ok (.goto 4, 3) := by decide +kernel
theorem d_pt_goesWith_26 : decode b_pt_goesWith 26 = .ok (.iconst 0, 1) := by decide +kernel
theorem d_pt_goesWith_27 : decode b_pt_goesWith 27 = .ok (.ireturn, 1) := by decide +kernel
theorem d_pt_take_0 : decode b_pt_take 0 = .ok (.aload_n 0, 1) := by decide +kernel
theorem d_pt_take_1 : decode b_pt_take 1 = .ok (.dup, 1) := by decide +kernel
theorem d_pt_take_2 : decode b_pt_take 2 = .ok (.getfield 9, 3) := by decide +kernel
theorem d_pt_take_5 : decode b_pt_take 5 = .ok (.aload_n 1, 1) := by decide +kernel
theorem d_pt_take_6 : decode b_pt_take 6 = .ok (.getfield 9, 3) := by decide +kernel
theorem d_pt_take_9 : decode b_pt_take 9 = .ok (.ior, 1) := by decide +kernel
theorem d_pt_take_10 : decode b_pt_take 10 = .ok (.putfield 9, 3) := by decide +kernel
theorem d_pt_take_13 : decode b_pt_take 13 = .ok (.aload_n 0, 1) := by decide +kernel
theorem d_pt_take_14 : decode b_pt_take 14 = .ok (.dup, 1) := by decide +kernel
theorem d_pt_take_15 : decode b_pt_take 15 = .ok (.getfield 15, 3) := by decide +kernel
theorem d_pt_take_18 : decode b_pt_take 18 = .ok (.aload_n 1, 1) := by decide +kernel
theorem d_pt_take_19 : decode b_pt_take 19 = .ok (.getfield 15, 3) := by decide +kernel
theorem d_pt_take_22 : decode b_pt_take 22 = .ok (.ior, 1) := by decide +kernel
theorem d_pt_take_23 : decode b_pt_take 23 = .ok (.putfield 15, 3) := by decide +kernel
theorem d_pt_take_26 : decode b_pt_take 26 = .ok (.aload_n 0, 1) := by decide +kernel
theorem d_pt_take_27 : decode b_pt_take 27 = .ok (.dup, 1) := by decide +kernel
theorem d_pt_take_28 : decode b_pt_take 28 = .ok (.getfield 18, 3) := by decide +kernel
theorem d_pt_take_31 : decode b_pt_take 31 = .ok (.aload_n 1, 1) := by decide +kernel
theorem d_pt_take_32 : decode b_pt_take 32 = .ok (.getfield 18, 3) := by decide +kernel
theorem d_pt_take_35 : decode b_pt_take 35 = .ok (.ior, 1) := by decide +kernel
theorem d_pt_take_36 : decode b_pt_take 36 = .ok (.putfield 18, 3) := by decide +kernel
theorem d_pt_take_39 : decode b_pt_take 39 = .ok (.aload_n 0, 1) := by decide +kernel
theorem d_pt_take_40 : decode b_pt_take 40 = .ok (.dup, 1) := by decide +kernel
theorem d_pt_take_41 : decode b_pt_take 41 = .ok (.getfield 21, 3) := by decide +kernel
theorem d_pt_take_44 : decode b_pt_take 44 = .ok (.aload_n 1, 1) := by decide +kernel
theorem d_pt_take_45 : decode b_pt_take 45 = .ok (.getfield 21, 3) := by decide +kernel
theorem d_pt_take_48 : decode b_pt_take 48 = .ok (.ior, 1) := by decide +kernel
theorem d_pt_take_49 : decode b_pt_take 49 = .ok (.putfield 21, 3) := by decide +kernel
theorem d_pt_take_52 : decode b_pt_take 52 = .ok (.aload_n 0, 1) := by decide +kernel
theorem d_pt_take_53 : decode b_pt_take 53 = .ok (.iconst (-1), 1) := by decide +kernel
theorem d_pt_take_54 : decode b_pt_take 54 = .ok (.putfield 24, 3) := by decide +kernel
theorem d_pt_take_57 : decode b_pt_take 57 = .ok (.aload_n 1, 1) := by decide +kernel
theorem d_pt_take_58 : decode b_pt_take 58 = .ok (.iconst 1, 1) := by decide +kernel
theorem d_pt_take_59 : decode b_pt_take 59 = .ok (.putfield 27, 3) := by decide +kernel
theorem d_pt_take_62 : decode b_pt_take 62 = .ok (.return_, 1) := by decide +kernel
end
section
theorem d_sh_init_0 : decode b_sh_init 0 = .ok (.aload_n 0, 1) := by decide +kernel
theorem d_sh_init_1 : decode b_sh_init 1 = .ok (.invokespecial 3, 3) := by decide +kernel
theorem d_sh_init_4 : decode b_sh_init 4 = .ok (.aload_n 0, 1) := by decide +kernel
theorem d_sh_init_5 : decode b_sh_init 5 = .ok (.iconst 4, 1) := by decide +kernel
theorem d_sh_init_6 : decode b_sh_init 6 = .ok (.iconst 1, 1) := by decide +kernel
theorem d_sh_init_7 : decode b_sh_init 7 = .ok (.iload_n 1, 1) := by decide +kernel
theorem d_sh_init_8 : decode b_sh_init 8 = .ok (.invokestatic 9, 3) := by decide +kernel
theorem d_sh_init_11 : decode b_sh_init 11 = .ok (.invokestatic 15, 3) := by decide +kernel
theorem d_sh_init_14 : decode b_sh_init 14 = .ok (.putfield 18, 3) := by decide +kernel
theorem d_sh_init_17 : decode b_sh_init 17 = .ok (.aload_n 0, 1) := by decide +kernel
theorem d_sh_init_18 : decode b_sh_init 18 = .ok (.bipush 8, 2) := by decide +kernel
theorem d_sh_init_20 : decode b_sh_init 20 = .ok (.iconst 1, 1) := by decide +kernel
theorem d_sh_init_21 : decode b_sh_init 21 = .ok (.iload_n 2, 1) := by decide +kernel
theorem d_sh_init_22 : decode b_sh_init 22 = .ok (.invokestatic 9, 3) := by decide +kernel
theorem d_sh_init_25 : decode b_sh_init 25 = .ok (.invokestatic 15, 3) := by decide +kernel
theorem d_sh_init_28 : decode b_sh_init 28 = .ok (.putfield 24, 3) := by decide +kernel
theorem d_sh_init_31 : decode b_sh_init 31 = .ok (.return_, 1) := by decide +kernel
theorem d_la_cell_0 : decode b_la_cell 0 = .ok (.iload_n 1, 1) := by decide +kernel
theorem d_la_cell_1 : decode b_la_cell 1 = .ok (.aload_n 0, 1) := by decide +kernel
theorem d_la_cell_2 : decode b_la_cell 2 = .ok (.arraylength, 1) := by decide +kernel
theorem d_la_cell_3 : decode b_la_cell 3 = .ok (.if_icmp .ge 9, 3) := by decide +kernel
theorem d_la_cell_6 : decode b_la_cell 6 = .ok (.aload_n 0, 1) := by decide +kernel
theorem d_la_cell_7 : decode b_la_cell 7 = .ok (.iload_n 1, 1) := by decide +kernel
theorem d_la_cell_8 : decode b_la_cell 8 = .ok (.iaload, 1) := by decide +kernel
theorem d_la_cell_9 : decode b_la_cell 9 = .ok (.goto 4, 3) := by decide +kernel
theorem d_la_cell_12 : decode b_la_cell 12 = .ok (.iconst 0, 1) := by decide +kernel
theorem d_la_cell_13 : decode b_la_cell 13 = .ok (.ireturn, 1) := by decide +kernel
theorem d_la_pattern_0 : decode b_la_pattern 0 = .ok (.aload_n 1, 1) := by decide +kernel
theorem d_la_pattern_1 : decode b_la_pattern 1 = .ok (.iconst 0, 1) := by decide +kernel
theorem d_la_pattern_2 : decode b_la_pattern 2 = .ok (.aload_n 0, 1) := by decide +kernel
theorem d_la_pattern_3 : decode b_la_pattern 3 = .ok (.invokevirtual 7, 3) := by decide +kernel
theorem d_la_pattern_6 : decode b_la_pattern 6 = .ok (.i2l, 1) := by decide +kernel
theorem d_la_pattern_7 : decode b_la_pattern 7 = .ok (.lastore, 1) := by decide +kernel
theorem d_la_pattern_8 : decode b_la_pattern 8 = .ok (.goto 6, 3) := by decide +kernel
theorem d_la_pattern_11 : decode b_la_pattern 11 = .ok (.astore_n 2, 1) := by decide +kernel
theorem d_la_pattern_12 : decode b_la_pattern 12 = .ok (.iconst 1, 1) := by decide +kernel
theorem d_la_pattern_13 : decode b_la_pattern 13 = .ok (.ireturn, 1) := by decide +kernel
theorem d_la_pattern_14 : decode b_la_pattern 14 = .ok (.iconst 0, 1) := by decide +kernel
theorem d_la_pattern_15 : decode b_la_pattern 15 = .ok (.ireturn, 1) := by decide +kernel
theorem d_la_care_0 : decode b_la_care 0 = .ok (.aload 5, 2) := by decide +kernel
theorem d_la_care_2 : decode b_la_care 2 = .ok (.iconst 0, 1) := by decide +kernel
theorem d_la_care_3 : decode b_la_care 3 = .ok (.aload_n 0, 1) := by decide +kernel
theorem d_la_care_4 : decode b_la_care 4 = .ok (.iload_n 1, 1) := by decide +kernel
theorem d_la_care_5 : decode b_la_care 5 = .ok (.iload_n 2, 1) := by decide +kernel
theorem d_la_care_6 : decode b_la_care 6 = .ok (.iload_n 3, 1) := by decide +kernel
theorem d_la_care_7 : decode b_la_care 7 = .ok (.iload 4, 2) := by decide +kernel
theorem d_la_care_9 : decode b_la_care 9 = .ok (.invokevirtual 15, 3) := by decide +kernel
theorem d_la_care_12 : decode b_la_care 12 = .ok (.ifCond .eq 7, 3) := by decide +kernel
theorem d_la_care_15 : decode b_la_care 15 = .ok (.lconst 1, 1) := by decide +kernel
theorem d_la_care_16 : decode b_la_care 16 = .ok (.goto 4, 3) := by decide +kernel
theorem d_la_care_19 : decode b_la_care 19 = .ok (.lconst 0, 1) := by decide +kernel
theorem d_la_care_20 : decode b_la_care 20 = .ok (.lastore, 1) := by decide +kernel
theorem d_la_care_21 : decode b_la_care 21 = .ok (.goto 11, 3) := by decide +kernel
theorem d_la_care_24 : decode b_la_care 24 = .ok (.astore 6, 2) := by decide +kernel
theorem d_la_care_26 : decode b_la_care 26 = .ok (.iconst 1, 1) := by decide +kernel
theorem d_la_care_27 : decode b_la_care 27 = .ok (.ireturn, 1) := by decide +kernel
theorem d_la_care_28 : decode b_la_care 28 = .ok (.astore 6, 2) := by decide +kernel
theorem d_la_care_30 : decode b_la_care 30 = .ok (.iconst 2, 1) := by decide +kernel
theorem d_la_care_31 : decode b_la_care 31 = .ok (.ireturn, 1) := by decide +kernel
theorem d_la_care_32 : decode b_la_care 32 = .ok (.iconst 0, 1) := by decide +kernel
theorem d_la_care_33 : decode b_la_care 33 = .ok (.ireturn, 1) := by decide +kernel
theorem d_la_degree_0 : decode b_la_degree 0 = .ok (.aload_n 0, 1) := by decide +kernel
theorem d_la_degree_1 : decode b_la_degree 1 = .ok (.iload_n 1, 1) := by decide +kernel
theorem d_la_degree_2 : decode b_la_degree 2 = .ok (.invokevirtual 23, 3) := by decide +kernel
theorem d_la_degree_5 : decode b_la_degree 5 = .ok (.goto 6, 3) := by decide +kernel
theorem d_la_degree_8 : decode b_la_degree 8 = .ok (.astore_n 2, 1) := by decide +kernel
theorem d_la_degree_9 : decode b_la_degree 9 = .ok (.iconst 1, 1) := by decide +kernel
theorem d_la_degree_10 : decode b_la_degree 10 = .ok (.ireturn, 1) := by decide +kernel
theorem d_la_degree_11 : decode b_la_degree 11 = .ok (.iconst 0, 1) := by decide +kernel
theorem d_la_degree_12 : decode b_la_degree 12 = .ok (.ireturn, 1) := by decide +kernel
theorem d_la_machine_0 : decode b_la_machine 0 = .ok (.aload_n 3, 1) := by decide +kernel
theorem d_la_machine_1 : decode b_la_machine 1 = .ok (.iconst 0, 1) := by decide +kernel
theorem d_la_machine_2 : decode b_la_machine 2 = .ok (.aload_n 0, 1) := by decide +kernel
theorem d_la_machine_3 : decode b_la_machine 3 = .ok (.iload_n 1, 1) := by decide +kernel
theorem d_la_machine_4 : decode b_la_machine 4 = .ok (.iload_n 2, 1) := by decide +kernel
theorem d_la_machine_5 : decode b_la_machine 5 = .ok (.invokevirtual 27, 3) := by decide +kernel
theorem d_la_machine_8 : decode b_la_machine 8 = .ok (.ifCond .eq 7, 3) := by decide +kernel
theorem d_la_machine_11 : decode b_la_machine 11 = .ok (.lconst 1, 1) := by decide +kernel
theorem d_la_machine_12 : decode b_la_machine 12 = .ok (.goto 4, 3) := by decide +kernel
theorem d_la_machine_15 : decode b_la_machine 15 = .ok (.lconst 0, 1) := by decide +kernel
theorem d_la_machine_16 : decode b_la_machine 16 = .ok (.lastore, 1) := by decide +kernel
theorem d_la_machine_17 : decode b_la_machine 17 = .ok (.goto 11, 3) := by decide +kernel
theorem d_la_machine_20 : decode b_la_machine 20 = .ok (.astore 4, 2) := by decide +kernel
theorem d_la_machine_22 : decode b_la_machine 22 = .ok (.iconst 1, 1) := by decide +kernel
theorem d_la_machine_23 : decode b_la_machine 23 = .ok (.ireturn, 1) := by decide +kernel
theorem d_la_machine_24 : decode b_la_machine 24 = .ok (.astore 4, 2) := by decide +kernel
theorem d_la_machine_26 : decode b_la_machine 26 = .ok (.iconst 2, 1) := by decide +kernel
theorem d_la_machine_27 : decode b_la_machine 27 = .ok (.ireturn, 1) := by decide +kernel
theorem d_la_machine_28 : decode b_la_machine 28 = .ok (.iconst 0, 1) := by decide +kernel
theorem d_la_machine_29 : decode b_la_machine 29 = .ok (.ireturn, 1) := by decide +kernel
theorem d_la_seed_0 : decode b_la_seed 0 = .ok (.aload_n 2, 1) := by decide +kernel
theorem d_la_seed_1 : decode b_la_seed 1 = .ok (.iconst 0, 1) := by decide +kernel
theorem d_la_seed_2 : decode b_la_seed 2 = .ok (.aload_n 0, 1) := by decide +kernel
theorem d_la_seed_3 : decode b_la_seed 3 = .ok (.iload_n 1, 1) := by decide +kernel
theorem d_la_seed_4 : decode b_la_seed 4 = .ok (.invokevirtual 31, 3) := by decide +kernel
theorem d_la_seed_7 : decode b_la_seed 7 = .ok (.i2l, 1) := by decide +kernel
theorem d_la_seed_8 : decode b_la_seed 8 = .ok (.lastore, 1) := by decide +kernel
theorem d_la_seed_9 : decode b_la_seed 9 = .ok (.goto 6, 3) := by decide +kernel
theorem d_la_seed_12 : decode b_la_seed 12 = .ok (.astore_n 3, 1) := by decide +kernel
theorem d_la_seed_13 : decode b_la_seed 13 = .ok (.iconst 1, 1) := by decide +kernel
theorem d_la_seed_14 : decode b_la_seed 14 = .ok (.ireturn, 1) := by decide +kernel
theorem d_la_seed_15 : decode b_la_seed 15 = .ok (.iconst 0, 1) := by decide +kernel
theorem d_la_seed_16 : decode b_la_seed 16 = .ok (.ireturn, 1) := by decide +kernel
theorem d_la_seedOf_0 : decode b_la_seedOf 0 = .ok (.aload_n 2, 1) := by decide +kernel
theorem d_la_seedOf_1 : decode b_la_seedOf 1 = .ok (.iconst 0, 1) := by decide +kernel
theorem d_la_seedOf_2 : decode b_la_seedOf 2 = .ok (.aload_n 0, 1) := by decide +kernel
theorem d_la_seedOf_3 : decode b_la_seedOf 3 = .ok (.iload_n 1, 1) := by decide +kernel
theorem d_la_seedOf_4 : decode b_la_seedOf 4 = .ok (.invokevirtual 35, 3) := by decide +kernel
theorem d_la_seedOf_7 : decode b_la_seedOf 7 = .ok (.i2l, 1) := by decide +kernel
theorem d_la_seedOf_8 : decode b_la_seedOf 8 = .ok (.lastore, 1) := by decide +kernel
theorem d_la_seedOf_9 : decode b_la_seedOf 9 = .ok (.goto 6, 3) := by decide +kernel
theorem d_la_seedOf_12 : decode b_la_seedOf 12 = .ok (.astore_n 3, 1) := by decide +kernel
theorem d_la_seedOf_13 : decode b_la_seedOf 13 = .ok (.iconst 1, 1) := by decide +kernel
theorem d_la_seedOf_14 : decode b_la_seedOf 14 = .ok (.ireturn, 1) := by decide +kernel
theorem d_la_seedOf_15 : decode b_la_seedOf 15 = .ok (.iconst 0, 1) := by decide +kernel
theorem d_la_seedOf_16 : decode b_la_seedOf 16 = .ok (.ireturn, 1) := by decide +kernel
theorem d_la_bit_0 : decode b_la_bit 0 = .ok (.aload 4, 2) := by decide +kernel
theorem d_la_bit_2 : decode b_la_bit 2 = .ok (.iconst 0, 1) := by decide +kernel
theorem d_la_bit_3 : decode b_la_bit 3 = .ok (.aload_n 0, 1) := by decide +kernel
theorem d_la_bit_4 : decode b_la_bit 4 = .ok (.iload_n 1, 1) := by decide +kernel
theorem d_la_bit_5 : decode b_la_bit 5 = .ok (.iload_n 2, 1) := by decide +kernel
theorem d_la_bit_6 : decode b_la_bit 6 = .ok (.iload_n 3, 1) := by decide +kernel
theorem d_la_bit_7 : decode b_la_bit 7 = .ok (.invokevirtual 38, 3) := by decide +kernel
theorem d_la_bit_10 : decode b_la_bit 10 = .ok (.i2l, 1) := by decide +kernel
theorem d_la_bit_11 : decode b_la_bit 11 = .ok (.lastore, 1) := by decide +kernel
theorem d_la_bit_12 : decode b_la_bit 12 = .ok (.goto 7, 3) := by decide +kernel
theorem d_la_bit_15 : decode b_la_bit 15 = .ok (.astore 5, 2) := by decide +kernel
theorem d_la_bit_17 : decode b_la_bit 17 = .ok (.iconst 1, 1) := by decide +kernel
theorem d_la_bit_18 : decode b_la_bit 18 = .ok (.ireturn, 1) := by decide +kernel
theorem d_la_bit_19 : decode b_la_bit 19 = .ok (.iconst 0, 1) := by decide +kernel
theorem d_la_bit_20 : decode b_la_bit 20 = .ok (.ireturn, 1) := by decide +kernel
theorem d_la_found_0 : decode b_la_found 0 = .ok (.aload_n 3, 1) := by decide +kernel
theorem d_la_found_1 : decode b_la_found 1 = .ok (.iconst 0, 1) := by decide +kernel
theorem d_la_found_2 : decode b_la_found 2 = .ok (.aload_n 0, 1) := by decide +kernel
theorem d_la_found_3 : decode b_la_found 3 = .ok (.iload_n 1, 1) := by decide +kernel
theorem d_la_found_4 : decode b_la_found 4 = .ok (.iload_n 2, 1) := by decide +kernel
theorem d_la_found_5 : decode b_la_found 5 = .ok (.invokevirtual 42, 3) := by decide +kernel
theorem d_la_found_8 : decode b_la_found 8 = .ok (.ifCond .eq 7, 3) := by decide +kernel
theorem d_la_found_11 : decode b_la_found 11 = .ok (.lconst 1, 1) := by decide +kernel
theorem d_la_found_12 : decode b_la_found 12 = .ok (.goto 4, 3) := by decide +kernel
theorem d_la_found_15 : decode b_la_found 15 = .ok (.lconst 0, 1) := by decide +kernel
theorem d_la_found_16 : decode b_la_found 16 = .ok (.lastore, 1) := by decide +kernel
theorem d_la_found_17 : decode b_la_found 17 = .ok (.goto 7, 3) := by decide +kernel
theorem d_la_found_20 : decode b_la_found 20 = .ok (.astore 4, 2) := by decide +kernel
theorem d_la_found_22 : decode b_la_found 22 = .ok (.iconst 1, 1) := by decide +kernel
theorem d_la_found_23 : decode b_la_found 23 = .ok (.ireturn, 1) := by decide +kernel
theorem d_la_found_24 : decode b_la_found 24 = .ok (.iconst 0, 1) := by decide +kernel
theorem d_la_found_25 : decode b_la_found 25 = .ok (.ireturn, 1) := by decide +kernel
theorem d_la_finders_0 : decode b_la_finders 0 = .ok (.aload_n 2, 1) := by decide +kernel
theorem d_la_finders_1 : decode b_la_finders 1 = .ok (.iconst 0, 1) := by decide +kernel
theorem d_la_finders_2 : decode b_la_finders 2 = .ok (.aload_n 0, 1) := by decide +kernel
theorem d_la_finders_3 : decode b_la_finders 3 = .ok (.iload_n 1, 1) := by decide +kernel
theorem d_la_finders_4 : decode b_la_finders 4 = .ok (.invokevirtual 46, 3) := by decide +kernel
theorem d_la_finders_7 : decode b_la_finders 7 = .ok (.i2l, 1) := by decide +kernel
theorem d_la_finders_8 : decode b_la_finders 8 = .ok (.lastore, 1) := by decide +kernel
theorem d_la_finders_9 : decode b_la_finders 9 = .ok (.goto 6, 3) := by decide +kernel
theorem d_la_finders_12 : decode b_la_finders 12 = .ok (.astore_n 3, 1) := by decide +kernel
theorem d_la_finders_13 : decode b_la_finders 13 = .ok (.iconst 1, 1) := by decide +kernel
theorem d_la_finders_14 : decode b_la_finders 14 = .ok (.ireturn, 1) := by decide +kernel
theorem d_la_finders_15 : decode b_la_finders 15 = .ok (.iconst 0, 1) := by decide +kernel
theorem d_la_finders_16 : decode b_la_finders 16 = .ok (.ireturn, 1) := by decide +kernel
theorem d_la_mask_0 : decode b_la_mask 0 = .ok (.aload 4, 2) := by decide +kernel
theorem d_la_mask_2 : decode b_la_mask 2 = .ok (.iconst 0, 1) := by decide +kernel
theorem d_la_mask_3 : decode b_la_mask 3 = .ok (.aload_n 0, 1) := by decide +kernel
theorem d_la_mask_4 : decode b_la_mask 4 = .ok (.iload_n 1, 1) := by decide +kernel
theorem d_la_mask_5 : decode b_la_mask 5 = .ok (.iload_n 2, 1) := by decide +kernel
theorem d_la_mask_6 : decode b_la_mask 6 = .ok (.iload_n 3, 1) := by decide +kernel
theorem d_la_mask_7 : decode b_la_mask 7 = .ok (.invokevirtual 49, 3) := by decide +kernel
theorem d_la_mask_10 : decode b_la_mask 10 = .ok (.ifCond .eq 7, 3) := by decide +kernel
theorem d_la_mask_13 : decode b_la_mask 13 = .ok (.lconst 1, 1) := by decide +kernel
theorem d_la_mask_14 : decode b_la_mask 14 = .ok (.goto 4, 3) := by decide +kernel
theorem d_la_mask_17 : decode b_la_mask 17 = .ok (.lconst 0, 1) := by decide +kernel
theorem d_la_mask_18 : decode b_la_mask 18 = .ok (.lastore, 1) := by decide +kernel
theorem d_la_mask_19 : decode b_la_mask 19 = .ok (.goto 7, 3) := by decide +kernel
theorem d_la_mask_22 : decode b_la_mask 22 = .ok (.astore 5, 2) := by decide +kernel
theorem d_la_mask_24 : decode b_la_mask 24 = .ok (.iconst 1, 1) := by decide +kernel
theorem d_la_mask_25 : decode b_la_mask 25 = .ok (.ireturn, 1) := by decide +kernel
theorem d_la_mask_26 : decode b_la_mask 26 = .ok (.iconst 0, 1) := by decide +kernel
theorem d_la_mask_27 : decode b_la_mask 27 = .ok (.ireturn, 1) := by decide +kernel
theorem d_la_signature_0 : decode b_la_signature 0 = .ok (.aload_n 3, 1) := by decide +kernel
theorem d_la_signature_1 : decode b_la_signature 1 = .ok (.iconst 0, 1) := by decide +kernel
theorem d_la_signature_2 : decode b_la_signature 2 = .ok (.aload_n 0, 1) := by decide +kernel
theorem d_la_signature_3 : decode b_la_signature 3 = .ok (.iload_n 1, 1) := by decide +kernel
theorem d_la_signature_4 : decode b_la_signature 4 = .ok (.iload_n 2, 1) := by decide +kernel
theorem d_la_signature_5 : decode b_la_signature 5 = .ok (.invokevirtual 53, 3) := by decide +kernel
theorem d_la_signature_8 : decode b_la_signature 8 = .ok (.lastore, 1) := by decide +kernel
theorem d_la_signature_9 : decode b_la_signature 9 = .ok (.goto 7, 3) := by decide +kernel
theorem d_la_signature_12 : decode b_la_signature 12 = .ok (.astore 4, 2) := by decide +kernel
theorem d_la_signature_14 : decode b_la_signature 14 = .ok (.iconst 1, 1) := by decide +kernel
theorem d_la_signature_15 : decode b_la_signature 15 = .ok (.ireturn, 1) := by decide +kernel
theorem d_la_signature_16 : decode b_la_signature 16 = .ok (.iconst 0, 1) := by decide +kernel
theorem d_la_signature_17 : decode b_la_signature 17 = .ok (.ireturn, 1) := by decide +kernel
theorem d_la_alias_0 : decode b_la_alias 0 = .ok (.aload_n 3, 1) := by decide +kernel
theorem d_la_alias_1 : decode b_la_alias 1 = .ok (.iconst 0, 1) := by decide +kernel
theorem d_la_alias_2 : decode b_la_alias 2 = .ok (.aload_n 0, 1) := by decide +kernel
theorem d_la_alias_3 : decode b_la_alias 3 = .ok (.iload_n 1, 1) := by decide +kernel
theorem d_la_alias_4 : decode b_la_alias 4 = .ok (.iload_n 2, 1) := by decide +kernel
theorem d_la_alias_5 : decode b_la_alias 5 = .ok (.invokevirtual 57, 3) := by decide +kernel
theorem d_la_alias_8 : decode b_la_alias 8 = .ok (.lastore, 1) := by decide +kernel
theorem d_la_alias_9 : decode b_la_alias 9 = .ok (.goto 7, 3) := by decide +kernel
theorem d_la_alias_12 : decode b_la_alias 12 = .ok (.astore 4, 2) := by decide +kernel
theorem d_la_alias_14 : decode b_la_alias 14 = .ok (.iconst 1, 1) := by decide +kernel
theorem d_la_alias_15 : decode b_la_alias 15 = .ok (.ireturn, 1) := by decide +kernel
theorem d_la_alias_16 : decode b_la_alias 16 = .ok (.iconst 0, 1) := by decide +kernel
theorem d_la_alias_17 : decode b_la_alias 17 = .ok (.ireturn, 1) := by decide +kernel
theorem d_la_fill_0 : decode b_la_fill 0 = .ok (.aload_n 2, 1) := by decide +kernel
theorem d_la_fill_1 : decode b_la_fill 1 = .ok (.iconst 0, 1) := by decide +kernel
theorem d_la_fill_2 : decode b_la_fill 2 = .ok (.aload_n 0, 1) := by decide +kernel
theorem d_la_fill_3 : decode b_la_fill 3 = .ok (.iload_n 1, 1) := by decide +kernel
theorem d_la_fill_4 : decode b_la_fill 4 = .ok (.invokevirtual 60, 3) := by decide +kernel
theorem d_la_fill_7 : decode b_la_fill 7 = .ok (.ifCond .eq 7, 3) := by decide +kernel
theorem d_la_fill_10 : decode b_la_fill 10 = .ok (.lconst 1, 1) := by decide +kernel
theorem d_la_fill_11 : decode b_la_fill 11 = .ok (.goto 4, 3) := by decide +kernel
theorem d_la_fill_14 : decode b_la_fill 14 = .ok (.lconst 0, 1) := by decide +kernel
theorem d_la_fill_15 : decode b_la_fill 15 = .ok (.lastore, 1) := by decide +kernel
theorem d_la_fill_16 : decode b_la_fill 16 = .ok (.goto 6, 3) := by decide +kernel
theorem d_la_fill_19 : decode b_la_fill 19 = .ok (.astore_n 3, 1) := by decide +kernel
theorem d_la_fill_20 : decode b_la_fill 20 = .ok (.iconst 1, 1) := by decide +kernel
theorem d_la_fill_21 : decode b_la_fill 21 = .ok (.ireturn, 1) := by decide +kernel
theorem d_la_fill_22 : decode b_la_fill 22 = .ok (.iconst 0, 1) := by decide +kernel
theorem d_la_fill_23 : decode b_la_fill 23 = .ok (.ireturn, 1) := by decide +kernel
theorem d_la_shifts_0 : decode b_la_shifts 0 = .ok (.aload_n 2, 1) := by decide +kernel
theorem d_la_shifts_1 : decode b_la_shifts 1 = .ok (.iconst 0, 1) := by decide +kernel
theorem d_la_shifts_2 : decode b_la_shifts 2 = .ok (.aload_n 0, 1) := by decide +kernel
theorem d_la_shifts_3 : decode b_la_shifts 3 = .ok (.iload_n 1, 1) := by decide +kernel
theorem d_la_shifts_4 : decode b_la_shifts 4 = .ok (.invokevirtual 64, 3) := by decide +kernel
theorem d_la_shifts_7 : decode b_la_shifts 7 = .ok (.lastore, 1) := by decide +kernel
theorem d_la_shifts_8 : decode b_la_shifts 8 = .ok (.goto 6, 3) := by decide +kernel
theorem d_la_shifts_11 : decode b_la_shifts 11 = .ok (.astore_n 3, 1) := by decide +kernel
theorem d_la_shifts_12 : decode b_la_shifts 12 = .ok (.iconst 1, 1) := by decide +kernel
theorem d_la_shifts_13 : decode b_la_shifts 13 = .ok (.ireturn, 1) := by decide +kernel
theorem d_la_shifts_14 : decode b_la_shifts 14 = .ok (.iconst 0, 1) := by decide +kernel
theorem d_la_shifts_15 : decode b_la_shifts 15 = .ok (.ireturn, 1) := by decide +kernel
theorem d_la_count_0 : decode b_la_count 0 = .ok (.aload_n 2, 1) := by decide +kernel
theorem d_la_count_1 : decode b_la_count 1 = .ok (.iconst 0, 1) := by decide +kernel
theorem d_la_count_2 : decode b_la_count 2 = .ok (.aload_n 0, 1) := by decide +kernel
theorem d_la_count_3 : decode b_la_count 3 = .ok (.iload_n 1, 1) := by decide +kernel
theorem d_la_count_4 : decode b_la_count 4 = .ok (.invokevirtual 68, 3) := by decide +kernel
theorem d_la_count_7 : decode b_la_count 7 = .ok (.i2l, 1) := by decide +kernel
theorem d_la_count_8 : decode b_la_count 8 = .ok (.lastore, 1) := by decide +kernel
theorem d_la_count_9 : decode b_la_count 9 = .ok (.goto 6, 3) := by decide +kernel
theorem d_la_count_12 : decode b_la_count 12 = .ok (.astore_n 3, 1) := by decide +kernel
theorem d_la_count_13 : decode b_la_count 13 = .ok (.iconst 1, 1) := by decide +kernel
theorem d_la_count_14 : decode b_la_count 14 = .ok (.ireturn, 1) := by decide +kernel
theorem d_la_count_15 : decode b_la_count 15 = .ok (.iconst 0, 1) := by decide +kernel
theorem d_la_count_16 : decode b_la_count 16 = .ok (.ireturn, 1) := by decide +kernel
theorem d_la_law_0 : decode code 0 = .ok (.new 8, 3) := by decide +kernel
end
section
theorem d_la_law_3 : decode code 3 = .ok (.dup, 1) := by decide +kernel
theorem d_la_law_4 : decode code 4 = .ok (.aload_n 0, 1) := by decide +kernel
theorem d_la_law_5 : decode code 5 = .ok (.iconst 0, 1) := by decide +kernel
theorem d_la_law_6 : decode code 6 = .ok (.invokestatic 71, 3) := by decide +kernel
theorem d_la_law_9 : decode code 9 = .ok (.aload_n 0, 1) := by decide +kernel
theorem d_la_law_10 : decode code 10 = .ok (.iconst 1, 1) := by decide +kernel
theorem d_la_law_11 : decode code 11 = .ok (.invokestatic 71, 3) := by decide +kernel
theorem d_la_law_14 : decode code 14 = .ok (.invokespecial 77, 3) := by decide +kernel
theorem d_la_law_17 : decode code 17 = .ok (.astore_n 1, 1) := by decide +kernel
theorem d_la_law_18 : decode code 18 = .ok (.new 80, 3) := by decide +kernel
theorem d_la_law_21 : decode code 21 = .ok (.dup, 1) := by decide +kernel
theorem d_la_law_22 : decode code 22 = .ok (.aload_n 0, 1) := by decide +kernel
theorem d_la_law_23 : decode code 23 = .ok (.iconst 0, 1) := by decide +kernel
theorem d_la_law_24 : decode code 24 = .ok (.invokestatic 71, 3) := by decide +kernel
theorem d_la_law_27 : decode code 27 = .ok (.aload_n 0, 1) := by decide +kernel
theorem d_la_law_28 : decode code 28 = .ok (.iconst 1, 1) := by decide +kernel
theorem d_la_law_29 : decode code 29 = .ok (.invokestatic 71, 3) := by decide +kernel
theorem d_la_law_32 : decode code 32 = .ok (.invokespecial 82, 3) := by decide +kernel
theorem d_la_law_35 : decode code 35 = .ok (.astore_n 2, 1) := by decide +kernel
theorem d_la_law_36 : decode code 36 = .ok (.iconst 1, 1) := by decide +kernel
theorem d_la_law_37 : decode code 37 = .ok (.newarray .long, 2) := by decide +kernel
theorem d_la_law_39 : decode code 39 = .ok (.astore_n 3, 1) := by decide +kernel
theorem d_la_law_40 : decode code 40 = .ok (.iconst 2, 1) := by decide +kernel
theorem d_la_law_41 : decode code 41 = .ok (.istore 4, 2) := by decide +kernel
theorem d_la_law_43 : decode code 43 = .ok (.iload 4, 2) := by decide +kernel
theorem d_la_law_45 : decode code 45 = .ok (.aload_n 0, 1) := by decide +kernel
theorem d_la_law_46 : decode code 46 = .ok (.arraylength, 1) := by decide +kernel
theorem d_la_law_47 : decode code 47 = .ok (.iconst 5, 1) := by decide +kernel
theorem d_la_law_48 : decode code 48 = .ok (.isub, 1) := by decide +kernel
theorem d_la_law_49 : decode code 49 = .ok (.if_icmp .gt 1128, 3) := by decide +kernel
theorem d_la_law_52 : decode code 52 = .ok (.aload_n 0, 1) := by decide +kernel
theorem d_la_law_53 : decode code 53 = .ok (.iload 4, 2) := by decide +kernel
theorem d_la_law_55 : decode code 55 = .ok (.iaload, 1) := by decide +kernel
theorem d_la_law_56 : decode code 56 = .ok (.bipush 31, 2) := by decide +kernel
theorem d_la_law_58 : decode code 58 = .ok (.iand, 1) := by decide +kernel
theorem d_la_law_59 : decode code 59 = .ok (.tableswitch 1112 0 17 #[85, 129, 228, 241, 277, 368, 424, 480, 560, 635, 648, 704, 791, 858, 871, 938, 1001, 1056], 85) := by decide +kernel
theorem d_la_law_144 : decode code 144 = .ok (.aload_n 1, 1) := by decide +kernel
theorem d_la_law_145 : decode code 145 = .ok (.aload_n 3, 1) := by decide +kernel
theorem d_la_law_146 : decode code 146 = .ok (.invokestatic 83, 3) := by decide +kernel
theorem d_la_law_149 : decode code 149 = .ok (.istore 5, 2) := by decide +kernel
theorem d_la_law_151 : decode code 151 = .ok (.aload_n 2, 1) := by decide +kernel
theorem d_la_law_152 : decode code 152 = .ok (.invokevirtual 86, 3) := by decide +kernel
theorem d_la_law_155 : decode code 155 = .ok (.istore 6, 2) := by decide +kernel
theorem d_la_law_157 : decode code 157 = .ok (.aload_n 2, 1) := by decide +kernel
theorem d_la_law_158 : decode code 158 = .ok (.invokevirtual 87, 3) := by decide +kernel
theorem d_la_law_161 : decode code 161 = .ok (.iload 5, 2) := by decide +kernel
theorem d_la_law_163 : decode code 163 = .ok (.if_icmp .eq 5, 3) := by decide +kernel
theorem d_la_law_166 : decode code 166 = .ok (.iconst 0, 1) := by decide +kernel
theorem d_la_law_167 : decode code 167 = .ok (.ireturn, 1) := by decide +kernel
theorem d_la_law_168 : decode code 168 = .ok (.iload 5, 2) := by decide +kernel
theorem d_la_law_170 : decode code 170 = .ok (.ifCond .ne 15, 3) := by decide +kernel
theorem d_la_law_173 : decode code 173 = .ok (.aload_n 3, 1) := by decide +kernel
theorem d_la_law_174 : decode code 174 = .ok (.iconst 0, 1) := by decide +kernel
theorem d_la_law_175 : decode code 175 = .ok (.laload, 1) := by decide +kernel
theorem d_la_law_176 : decode code 176 = .ok (.iload 6, 2) := by decide +kernel
theorem d_la_law_178 : decode code 178 = .ok (.i2l, 1) := by decide +kernel
theorem d_la_law_179 : decode code 179 = .ok (.lcmp, 1) := by decide +kernel
theorem d_la_law_180 : decode code 180 = .ok (.ifCond .eq 5, 3) := by decide +kernel
theorem d_la_law_183 : decode code 183 = .ok (.iconst 0, 1) := by decide +kernel
theorem d_la_law_184 : decode code 184 = .ok (.ireturn, 1) := by decide +kernel
theorem d_la_law_185 : decode code 185 = .ok (.goto 986, 3) := by decide +kernel
theorem d_la_law_188 : decode code 188 = .ok (.aload_n 1, 1) := by decide +kernel
theorem d_la_law_189 : decode code 189 = .ok (.aload_n 0, 1) := by decide +kernel
theorem d_la_law_190 : decode code 190 = .ok (.iload 4, 2) := by decide +kernel
theorem d_la_law_192 : decode code 192 = .ok (.iconst 1, 1) := by decide +kernel
theorem d_la_law_193 : decode code 193 = .ok (.iadd, 1) := by decide +kernel
theorem d_la_law_194 : decode code 194 = .ok (.iaload, 1) := by decide +kernel
theorem d_la_law_195 : decode code 195 = .ok (.aload_n 0, 1) := by decide +kernel
theorem d_la_law_196 : decode code 196 = .ok (.iload 4, 2) := by decide +kernel
theorem d_la_law_198 : decode code 198 = .ok (.iconst 2, 1) := by decide +kernel
theorem d_la_law_199 : decode code 199 = .ok (.iadd, 1) := by decide +kernel
theorem d_la_law_200 : decode code 200 = .ok (.iaload, 1) := by decide +kernel
theorem d_la_law_201 : decode code 201 = .ok (.aload_n 0, 1) := by decide +kernel
theorem d_la_law_202 : decode code 202 = .ok (.iload 4, 2) := by decide +kernel
theorem d_la_law_204 : decode code 204 = .ok (.iconst 3, 1) := by decide +kernel
theorem d_la_law_205 : decode code 205 = .ok (.iadd, 1) := by decide +kernel
theorem d_la_law_206 : decode code 206 = .ok (.iaload, 1) := by decide +kernel
theorem d_la_law_207 : decode code 207 = .ok (.aload_n 0, 1) := by decide +kernel
theorem d_la_law_208 : decode code 208 = .ok (.iload 4, 2) := by decide +kernel
theorem d_la_law_210 : decode code 210 = .ok (.iconst 4, 1) := by decide +kernel
theorem d_la_law_211 : decode code 211 = .ok (.iadd, 1) := by decide +kernel
theorem d_la_law_212 : decode code 212 = .ok (.iaload, 1) := by decide +kernel
theorem d_la_law_213 : decode code 213 = .ok (.aload_n 3, 1) := by decide +kernel
theorem d_la_law_214 : decode code 214 = .ok (.invokestatic 90, 3) := by decide +kernel
theorem d_la_law_217 : decode code 217 = .ok (.istore 5, 2) := by decide +kernel
theorem d_la_law_219 : decode code 219 = .ok (.aload_n 2, 1) := by decide +kernel
theorem d_la_law_220 : decode code 220 = .ok (.aload_n 0, 1) := by decide +kernel
theorem d_la_law_221 : decode code 221 = .ok (.iload 4, 2) := by decide +kernel
theorem d_la_law_223 : decode code 223 = .ok (.iconst 1, 1) := by decide +kernel
theorem d_la_law_224 : decode code 224 = .ok (.iadd, 1) := by decide +kernel
theorem d_la_law_225 : decode code 225 = .ok (.iaload, 1) := by decide +kernel
theorem d_la_law_226 : decode code 226 = .ok (.aload_n 0, 1) := by decide +kernel
theorem d_la_law_227 : decode code 227 = .ok (.iload 4, 2) := by decide +kernel
theorem d_la_law_229 : decode code 229 = .ok (.iconst 2, 1) := by decide +kernel
theorem d_la_law_230 : decode code 230 = .ok (.iadd, 1) := by decide +kernel
theorem d_la_law_231 : decode code 231 = .ok (.iaload, 1) := by decide +kernel
theorem d_la_law_232 : decode code 232 = .ok (.aload_n 0, 1) := by decide +kernel
theorem d_la_law_233 : decode code 233 = .ok (.iload 4, 2) := by decide +kernel
theorem d_la_law_235 : decode code 235 = .ok (.iconst 3, 1) := by decide +kernel
theorem d_la_law_236 : decode code 236 = .ok (.iadd, 1) := by decide +kernel
theorem d_la_law_237 : decode code 237 = .ok (.iaload, 1) := by decide +kernel
theorem d_la_law_238 : decode code 238 = .ok (.aload_n 0, 1) := by decide +kernel
theorem d_la_law_239 : decode code 239 = .ok (.iload 4, 2) := by decide +kernel
theorem d_la_law_241 : decode code 241 = .ok (.iconst 4, 1) := by decide +kernel
theorem d_la_law_242 : decode code 242 = .ok (.iadd, 1) := by decide +kernel
theorem d_la_law_243 : decode code 243 = .ok (.iaload, 1) := by decide +kernel
theorem d_la_law_244 : decode code 244 = .ok (.invokevirtual 93, 3) := by decide +kernel
theorem d_la_law_247 : decode code 247 = .ok (.istore 6, 2) := by decide +kernel
theorem d_la_law_249 : decode code 249 = .ok (.aload_n 2, 1) := by decide +kernel
theorem d_la_law_250 : decode code 250 = .ok (.invokevirtual 87, 3) := by decide +kernel
theorem d_la_law_253 : decode code 253 = .ok (.iload 5, 2) := by decide +kernel
theorem d_la_law_255 : decode code 255 = .ok (.if_icmp .eq 5, 3) := by decide +kernel
theorem d_la_law_258 : decode code 258 = .ok (.iconst 0, 1) := by decide +kernel
theorem d_la_law_259 : decode code 259 = .ok (.ireturn, 1) := by decide +kernel
theorem d_la_law_260 : decode code 260 = .ok (.iload 5, 2) := by decide +kernel
theorem d_la_law_262 : decode code 262 = .ok (.ifCond .ne 22, 3) := by decide +kernel
theorem d_la_law_265 : decode code 265 = .ok (.aload_n 3, 1) := by decide +kernel
theorem d_la_law_266 : decode code 266 = .ok (.iconst 0, 1) := by decide +kernel
theorem d_la_law_267 : decode code 267 = .ok (.laload, 1) := by decide +kernel
theorem d_la_law_268 : decode code 268 = .ok (.iload 6, 2) := by decide +kernel
theorem d_la_law_270 : decode code 270 = .ok (.ifCond .eq 7, 3) := by decide +kernel
theorem d_la_law_273 : decode code 273 = .ok (.lconst 1, 1) := by decide +kernel
theorem d_la_law_274 : decode code 274 = .ok (.goto 4, 3) := by decide +kernel
theorem d_la_law_277 : decode code 277 = .ok (.lconst 0, 1) := by decide +kernel
theorem d_la_law_278 : decode code 278 = .ok (.lcmp, 1) := by decide +kernel
theorem d_la_law_279 : decode code 279 = .ok (.ifCond .eq 5, 3) := by decide +kernel
theorem d_la_law_282 : decode code 282 = .ok (.iconst 0, 1) := by decide +kernel
theorem d_la_law_283 : decode code 283 = .ok (.ireturn, 1) := by decide +kernel
theorem d_la_law_284 : decode code 284 = .ok (.goto 887, 3) := by decide +kernel
theorem d_la_law_287 : decode code 287 = .ok (.aload_n 1, 1) := by decide +kernel
theorem d_la_law_288 : decode code 288 = .ok (.invokevirtual 94, 3) := by decide +kernel
theorem d_la_law_291 : decode code 291 = .ok (.aload_n 2, 1) := by decide +kernel
theorem d_la_law_292 : decode code 292 = .ok (.invokevirtual 97, 3) := by decide +kernel
theorem d_la_law_295 : decode code 295 = .ok (.if_icmp .eq 876, 3) := by decide +kernel
theorem d_la_law_298 : decode code 298 = .ok (.iconst 0, 1) := by decide +kernel
theorem d_la_law_299 : decode code 299 = .ok (.ireturn, 1) := by decide +kernel
theorem d_la_law_300 : decode code 300 = .ok (.aload_n 1, 1) := by decide +kernel
theorem d_la_law_301 : decode code 301 = .ok (.aload_n 0, 1) := by decide +kernel
theorem d_la_law_302 : decode code 302 = .ok (.iload 4, 2) := by decide +kernel
theorem d_la_law_304 : decode code 304 = .ok (.iconst 1, 1) := by decide +kernel
theorem d_la_law_305 : decode code 305 = .ok (.iadd, 1) := by decide +kernel
theorem d_la_law_306 : decode code 306 = .ok (.iaload, 1) := by decide +kernel
theorem d_la_law_307 : decode code 307 = .ok (.invokestatic 98, 3) := by decide +kernel
theorem d_la_law_310 : decode code 310 = .ok (.istore 5, 2) := by decide +kernel
theorem d_la_law_312 : decode code 312 = .ok (.aload_n 2, 1) := by decide +kernel
theorem d_la_law_313 : decode code 313 = .ok (.aload_n 0, 1) := by decide +kernel
theorem d_la_law_314 : decode code 314 = .ok (.iload 4, 2) := by decide +kernel
theorem d_la_law_316 : decode code 316 = .ok (.iconst 1, 1) := by decide +kernel
theorem d_la_law_317 : decode code 317 = .ok (.iadd, 1) := by decide +kernel
theorem d_la_law_318 : decode code 318 = .ok (.iaload, 1) := by decide +kernel
end
section
theorem d_la_law_319 : decode code 319 = .ok (.invokevirtual 101, 3) := by decide +kernel
theorem d_la_law_322 : decode code 322 = .ok (.aload_n 2, 1) := by decide +kernel
theorem d_la_law_323 : decode code 323 = .ok (.invokevirtual 87, 3) := by decide +kernel
theorem d_la_law_326 : decode code 326 = .ok (.iload 5, 2) := by decide +kernel
theorem d_la_law_328 : decode code 328 = .ok (.if_icmp .eq 5, 3) := by decide +kernel
theorem d_la_law_331 : decode code 331 = .ok (.iconst 0, 1) := by decide +kernel
theorem d_la_law_332 : decode code 332 = .ok (.ireturn, 1) := by decide +kernel
theorem d_la_law_333 : decode code 333 = .ok (.goto 838, 3) := by decide +kernel
theorem d_la_law_336 : decode code 336 = .ok (.aload_n 1, 1) := by decide +kernel
theorem d_la_law_337 : decode code 337 = .ok (.aload_n 0, 1) := by decide +kernel
theorem d_la_law_338 : decode code 338 = .ok (.iload 4, 2) := by decide +kernel
theorem d_la_law_340 : decode code 340 = .ok (.iconst 1, 1) := by decide +kernel
theorem d_la_law_341 : decode code 341 = .ok (.iadd, 1) := by decide +kernel
theorem d_la_law_342 : decode code 342 = .ok (.iaload, 1) := by decide +kernel
theorem d_la_law_343 : decode code 343 = .ok (.aload_n 0, 1) := by decide +kernel
theorem d_la_law_344 : decode code 344 = .ok (.iload 4, 2) := by decide +kernel
theorem d_la_law_346 : decode code 346 = .ok (.iconst 2, 1) := by decide +kernel
theorem d_la_law_347 : decode code 347 = .ok (.iadd, 1) := by decide +kernel
theorem d_la_law_348 : decode code 348 = .ok (.iaload, 1) := by decide +kernel
theorem d_la_law_349 : decode code 349 = .ok (.ifCond .eq 7, 3) := by decide +kernel
theorem d_la_law_352 : decode code 352 = .ok (.iconst 1, 1) := by decide +kernel
theorem d_la_law_353 : decode code 353 = .ok (.goto 4, 3) := by decide +kernel
theorem d_la_law_356 : decode code 356 = .ok (.iconst 0, 1) := by decide +kernel
theorem d_la_law_357 : decode code 357 = .ok (.aload_n 3, 1) := by decide +kernel
theorem d_la_law_358 : decode code 358 = .ok (.invokestatic 102, 3) := by decide +kernel
theorem d_la_law_361 : decode code 361 = .ok (.istore 5, 2) := by decide +kernel
theorem d_la_law_363 : decode code 363 = .ok (.aload_n 2, 1) := by decide +kernel
theorem d_la_law_364 : decode code 364 = .ok (.aload_n 0, 1) := by decide +kernel
theorem d_la_law_365 : decode code 365 = .ok (.iload 4, 2) := by decide +kernel
theorem d_la_law_367 : decode code 367 = .ok (.iconst 1, 1) := by decide +kernel
theorem d_la_law_368 : decode code 368 = .ok (.iadd, 1) := by decide +kernel
theorem d_la_law_369 : decode code 369 = .ok (.iaload, 1) := by decide +kernel
theorem d_la_law_370 : decode code 370 = .ok (.aload_n 0, 1) := by decide +kernel
theorem d_la_law_371 : decode code 371 = .ok (.iload 4, 2) := by decide +kernel
theorem d_la_law_373 : decode code 373 = .ok (.iconst 2, 1) := by decide +kernel
theorem d_la_law_374 : decode code 374 = .ok (.iadd, 1) := by decide +kernel
theorem d_la_law_375 : decode code 375 = .ok (.iaload, 1) := by decide +kernel
theorem d_la_law_376 : decode code 376 = .ok (.ifCond .eq 7, 3) := by decide +kernel
theorem d_la_law_379 : decode code 379 = .ok (.iconst 1, 1) := by decide +kernel
theorem d_la_law_380 : decode code 380 = .ok (.goto 4, 3) := by decide +kernel
theorem d_la_law_383 : decode code 383 = .ok (.iconst 0, 1) := by decide +kernel
theorem d_la_law_384 : decode code 384 = .ok (.invokevirtual 105, 3) := by decide +kernel
theorem d_la_law_387 : decode code 387 = .ok (.istore 6, 2) := by decide +kernel
theorem d_la_law_389 : decode code 389 = .ok (.aload_n 2, 1) := by decide +kernel
theorem d_la_law_390 : decode code 390 = .ok (.invokevirtual 87, 3) := by decide +kernel
theorem d_la_law_393 : decode code 393 = .ok (.iload 5, 2) := by decide +kernel
theorem d_la_law_395 : decode code 395 = .ok (.if_icmp .eq 5, 3) := by decide +kernel
theorem d_la_law_398 : decode code 398 = .ok (.iconst 0, 1) := by decide +kernel
theorem d_la_law_399 : decode code 399 = .ok (.ireturn, 1) := by decide +kernel
theorem d_la_law_400 : decode code 400 = .ok (.iload 5, 2) := by decide +kernel
theorem d_la_law_402 : decode code 402 = .ok (.ifCond .ne 22, 3) := by decide +kernel
theorem d_la_law_405 : decode code 405 = .ok (.aload_n 3, 1) := by decide +kernel
theorem d_la_law_406 : decode code 406 = .ok (.iconst 0, 1) := by decide +kernel
theorem d_la_law_407 : decode code 407 = .ok (.laload, 1) := by decide +kernel
theorem d_la_law_408 : decode code 408 = .ok (.iload 6, 2) := by decide +kernel
theorem d_la_law_410 : decode code 410 = .ok (.ifCond .eq 7, 3) := by decide +kernel
theorem d_la_law_413 : decode code 413 = .ok (.lconst 1, 1) := by decide +kernel
theorem d_la_law_414 : decode code 414 = .ok (.goto 4, 3) := by decide +kernel
theorem d_la_law_417 : decode code 417 = .ok (.lconst 0, 1) := by decide +kernel
theorem d_la_law_418 : decode code 418 = .ok (.lcmp, 1) := by decide +kernel
theorem d_la_law_419 : decode code 419 = .ok (.ifCond .eq 5, 3) := by decide +kernel
theorem d_la_law_422 : decode code 422 = .ok (.iconst 0, 1) := by decide +kernel
theorem d_la_law_423 : decode code 423 = .ok (.ireturn, 1) := by decide +kernel
theorem d_la_law_424 : decode code 424 = .ok (.goto 747, 3) := by decide +kernel
theorem d_la_law_427 : decode code 427 = .ok (.aload_n 1, 1) := by decide +kernel
theorem d_la_law_428 : decode code 428 = .ok (.aload_n 0, 1) := by decide +kernel
theorem d_la_law_429 : decode code 429 = .ok (.iload 4, 2) := by decide +kernel
theorem d_la_law_431 : decode code 431 = .ok (.iconst 1, 1) := by decide +kernel
theorem d_la_law_432 : decode code 432 = .ok (.iadd, 1) := by decide +kernel
theorem d_la_law_433 : decode code 433 = .ok (.iaload, 1) := by decide +kernel
theorem d_la_law_434 : decode code 434 = .ok (.aload_n 3, 1) := by decide +kernel
theorem d_la_law_435 : decode code 435 = .ok (.invokestatic 106, 3) := by decide +kernel
theorem d_la_law_438 : decode code 438 = .ok (.istore 5, 2) := by decide +kernel
theorem d_la_law_440 : decode code 440 = .ok (.aload_n 2, 1) := by decide +kernel
theorem d_la_law_441 : decode code 441 = .ok (.aload_n 0, 1) := by decide +kernel
theorem d_la_law_442 : decode code 442 = .ok (.iload 4, 2) := by decide +kernel
theorem d_la_law_444 : decode code 444 = .ok (.iconst 1, 1) := by decide +kernel
theorem d_la_law_445 : decode code 445 = .ok (.iadd, 1) := by decide +kernel
theorem d_la_law_446 : decode code 446 = .ok (.iaload, 1) := by decide +kernel
theorem d_la_law_447 : decode code 447 = .ok (.invokevirtual 109, 3) := by decide +kernel
theorem d_la_law_450 : decode code 450 = .ok (.istore 6, 2) := by decide +kernel
theorem d_la_law_452 : decode code 452 = .ok (.aload_n 2, 1) := by decide +kernel
theorem d_la_law_453 : decode code 453 = .ok (.invokevirtual 87, 3) := by decide +kernel
theorem d_la_law_456 : decode code 456 = .ok (.iload 5, 2) := by decide +kernel
theorem d_la_law_458 : decode code 458 = .ok (.if_icmp .eq 5, 3) := by decide +kernel
theorem d_la_law_461 : decode code 461 = .ok (.iconst 0, 1) := by decide +kernel
theorem d_la_law_462 : decode code 462 = .ok (.ireturn, 1) := by decide +kernel
theorem d_la_law_463 : decode code 463 = .ok (.iload 5, 2) := by decide +kernel
theorem d_la_law_465 : decode code 465 = .ok (.ifCond .ne 15, 3) := by decide +kernel
theorem d_la_law_468 : decode code 468 = .ok (.aload_n 3, 1) := by decide +kernel
theorem d_la_law_469 : decode code 469 = .ok (.iconst 0, 1) := by decide +kernel
theorem d_la_law_470 : decode code 470 = .ok (.laload, 1) := by decide +kernel
theorem d_la_law_471 : decode code 471 = .ok (.iload 6, 2) := by decide +kernel
theorem d_la_law_473 : decode code 473 = .ok (.i2l, 1) := by decide +kernel
theorem d_la_law_474 : decode code 474 = .ok (.lcmp, 1) := by decide +kernel
theorem d_la_law_475 : decode code 475 = .ok (.ifCond .eq 5, 3) := by decide +kernel
theorem d_la_law_478 : decode code 478 = .ok (.iconst 0, 1) := by decide +kernel
theorem d_la_law_479 : decode code 479 = .ok (.ireturn, 1) := by decide +kernel
theorem d_la_law_480 : decode code 480 = .ok (.goto 691, 3) := by decide +kernel
theorem d_la_law_483 : decode code 483 = .ok (.aload_n 1, 1) := by decide +kernel
theorem d_la_law_484 : decode code 484 = .ok (.aload_n 0, 1) := by decide +kernel
theorem d_la_law_485 : decode code 485 = .ok (.iload 4, 2) := by decide +kernel
theorem d_la_law_487 : decode code 487 = .ok (.iconst 1, 1) := by decide +kernel
theorem d_la_law_488 : decode code 488 = .ok (.iadd, 1) := by decide +kernel
theorem d_la_law_489 : decode code 489 = .ok (.iaload, 1) := by decide +kernel
theorem d_la_law_490 : decode code 490 = .ok (.aload_n 3, 1) := by decide +kernel
theorem d_la_law_491 : decode code 491 = .ok (.invokestatic 110, 3) := by decide +kernel
theorem d_la_law_494 : decode code 494 = .ok (.istore 5, 2) := by decide +kernel
theorem d_la_law_496 : decode code 496 = .ok (.aload_n 2, 1) := by decide +kernel
theorem d_la_law_497 : decode code 497 = .ok (.aload_n 0, 1) := by decide +kernel
theorem d_la_law_498 : decode code 498 = .ok (.iload 4, 2) := by decide +kernel
theorem d_la_law_500 : decode code 500 = .ok (.iconst 1, 1) := by decide +kernel
theorem d_la_law_501 : decode code 501 = .ok (.iadd, 1) := by decide +kernel
theorem d_la_law_502 : decode code 502 = .ok (.iaload, 1) := by decide +kernel
theorem d_la_law_503 : decode code 503 = .ok (.invokevirtual 112, 3) := by decide +kernel
theorem d_la_law_506 : decode code 506 = .ok (.istore 6, 2) := by decide +kernel
theorem d_la_law_508 : decode code 508 = .ok (.aload_n 2, 1) := by decide +kernel
theorem d_la_law_509 : decode code 509 = .ok (.invokevirtual 87, 3) := by decide +kernel
theorem d_la_law_512 : decode code 512 = .ok (.iload 5, 2) := by decide +kernel
theorem d_la_law_514 : decode code 514 = .ok (.if_icmp .eq 5, 3) := by decide +kernel
theorem d_la_law_517 : decode code 517 = .ok (.iconst 0, 1) := by decide +kernel
theorem d_la_law_518 : decode code 518 = .ok (.ireturn, 1) := by decide +kernel
theorem d_la_law_519 : decode code 519 = .ok (.iload 5, 2) := by decide +kernel
theorem d_la_law_521 : decode code 521 = .ok (.ifCond .ne 15, 3) := by decide +kernel
theorem d_la_law_524 : decode code 524 = .ok (.aload_n 3, 1) := by decide +kernel
theorem d_la_law_525 : decode code 525 = .ok (.iconst 0, 1) := by decide +kernel
theorem d_la_law_526 : decode code 526 = .ok (.laload, 1) := by decide +kernel
theorem d_la_law_527 : decode code 527 = .ok (.iload 6, 2) := by decide +kernel
theorem d_la_law_529 : decode code 529 = .ok (.i2l, 1) := by decide +kernel
theorem d_la_law_530 : decode code 530 = .ok (.lcmp, 1) := by decide +kernel
theorem d_la_law_531 : decode code 531 = .ok (.ifCond .eq 5, 3) := by decide +kernel
theorem d_la_law_534 : decode code 534 = .ok (.iconst 0, 1) := by decide +kernel
theorem d_la_law_535 : decode code 535 = .ok (.ireturn, 1) := by decide +kernel
theorem d_la_law_536 : decode code 536 = .ok (.goto 635, 3) := by decide +kernel
theorem d_la_law_539 : decode code 539 = .ok (.aload_n 1, 1) := by decide +kernel
theorem d_la_law_540 : decode code 540 = .ok (.aload_n 0, 1) := by decide +kernel
theorem d_la_law_541 : decode code 541 = .ok (.iload 4, 2) := by decide +kernel
theorem d_la_law_543 : decode code 543 = .ok (.iconst 1, 1) := by decide +kernel
theorem d_la_law_544 : decode code 544 = .ok (.iadd, 1) := by decide +kernel
theorem d_la_law_545 : decode code 545 = .ok (.iaload, 1) := by decide +kernel
theorem d_la_law_546 : decode code 546 = .ok (.aload_n 0, 1) := by decide +kernel
theorem d_la_law_547 : decode code 547 = .ok (.iload 4, 2) := by decide +kernel
theorem d_la_law_549 : decode code 549 = .ok (.iconst 2, 1) := by decide +kernel
theorem d_la_law_550 : decode code 550 = .ok (.iadd, 1) := by decide +kernel
theorem d_la_law_551 : decode code 551 = .ok (.iaload, 1) := by decide +kernel
theorem d_la_law_552 : decode code 552 = .ok (.aload_n 0, 1) := by decide +kernel
theorem d_la_law_553 : decode code 553 = .ok (.iload 4, 2) := by decide +kernel
theorem d_la_law_555 : decode code 555 = .ok (.iconst 3, 1) := by decide +kernel
theorem d_la_law_556 : decode code 556 = .ok (.iadd, 1) := by decide +kernel
theorem d_la_law_557 : decode code 557 = .ok (.iaload, 1) := by decide +kernel
end
section
theorem d_la_law_558 : decode code 558 = .ok (.aload_n 3, 1) := by decide +kernel
theorem d_la_law_559 : decode code 559 = .ok (.invokestatic 113, 3) := by decide +kernel
theorem d_la_law_562 : decode code 562 = .ok (.istore 5, 2) := by decide +kernel
theorem d_la_law_564 : decode code 564 = .ok (.aload_n 2, 1) := by decide +kernel
theorem d_la_law_565 : decode code 565 = .ok (.aload_n 0, 1) := by decide +kernel
theorem d_la_law_566 : decode code 566 = .ok (.iload 4, 2) := by decide +kernel
theorem d_la_law_568 : decode code 568 = .ok (.iconst 1, 1) := by decide +kernel
theorem d_la_law_569 : decode code 569 = .ok (.iadd, 1) := by decide +kernel
theorem d_la_law_570 : decode code 570 = .ok (.iaload, 1) := by decide +kernel
theorem d_la_law_571 : decode code 571 = .ok (.aload_n 0, 1) := by decide +kernel
theorem d_la_law_572 : decode code 572 = .ok (.iload 4, 2) := by decide +kernel
theorem d_la_law_574 : decode code 574 = .ok (.iconst 2, 1) := by decide +kernel
theorem d_la_law_575 : decode code 575 = .ok (.iadd, 1) := by decide +kernel
theorem d_la_law_576 : decode code 576 = .ok (.iaload, 1) := by decide +kernel
theorem d_la_law_577 : decode code 577 = .ok (.aload_n 0, 1) := by decide +kernel
theorem d_la_law_578 : decode code 578 = .ok (.iload 4, 2) := by decide +kernel
theorem d_la_law_580 : decode code 580 = .ok (.iconst 3, 1) := by decide +kernel
theorem d_la_law_581 : decode code 581 = .ok (.iadd, 1) := by decide +kernel
theorem d_la_law_582 : decode code 582 = .ok (.iaload, 1) := by decide +kernel
theorem d_la_law_583 : decode code 583 = .ok (.invokevirtual 116, 3) := by decide +kernel
theorem d_la_law_586 : decode code 586 = .ok (.istore 6, 2) := by decide +kernel
theorem d_la_law_588 : decode code 588 = .ok (.aload_n 2, 1) := by decide +kernel
theorem d_la_law_589 : decode code 589 = .ok (.invokevirtual 87, 3) := by decide +kernel
theorem d_la_law_592 : decode code 592 = .ok (.iload 5, 2) := by decide +kernel
theorem d_la_law_594 : decode code 594 = .ok (.if_icmp .eq 5, 3) := by decide +kernel
theorem d_la_law_597 : decode code 597 = .ok (.iconst 0, 1) := by decide +kernel
theorem d_la_law_598 : decode code 598 = .ok (.ireturn, 1) := by decide +kernel
theorem d_la_law_599 : decode code 599 = .ok (.iload 5, 2) := by decide +kernel
theorem d_la_law_601 : decode code 601 = .ok (.ifCond .ne 15, 3) := by decide +kernel
theorem d_la_law_604 : decode code 604 = .ok (.aload_n 3, 1) := by decide +kernel
theorem d_la_law_605 : decode code 605 = .ok (.iconst 0, 1) := by decide +kernel
theorem d_la_law_606 : decode code 606 = .ok (.laload, 1) := by decide +kernel
theorem d_la_law_607 : decode code 607 = .ok (.iload 6, 2) := by decide +kernel
theorem d_la_law_609 : decode code 609 = .ok (.i2l, 1) := by decide +kernel
theorem d_la_law_610 : decode code 610 = .ok (.lcmp, 1) := by decide +kernel
theorem d_la_law_611 : decode code 611 = .ok (.ifCond .eq 5, 3) := by decide +kernel
theorem d_la_law_614 : decode code 614 = .ok (.iconst 0, 1) := by decide +kernel
theorem d_la_law_615 : decode code 615 = .ok (.ireturn, 1) := by decide +kernel
theorem d_la_law_616 : decode code 616 = .ok (.goto 555, 3) := by decide +kernel
theorem d_la_law_619 : decode code 619 = .ok (.aload_n 1, 1) := by decide +kernel
theorem d_la_law_620 : decode code 620 = .ok (.aload_n 0, 1) := by decide +kernel
theorem d_la_law_621 : decode code 621 = .ok (.iload 4, 2) := by decide +kernel
theorem d_la_law_623 : decode code 623 = .ok (.iconst 1, 1) := by decide +kernel
theorem d_la_law_624 : decode code 624 = .ok (.iadd, 1) := by decide +kernel
theorem d_la_law_625 : decode code 625 = .ok (.iaload, 1) := by decide +kernel
theorem d_la_law_626 : decode code 626 = .ok (.aload_n 0, 1) := by decide +kernel
theorem d_la_law_627 : decode code 627 = .ok (.iload 4, 2) := by decide +kernel
theorem d_la_law_629 : decode code 629 = .ok (.iconst 2, 1) := by decide +kernel
theorem d_la_law_630 : decode code 630 = .ok (.iadd, 1) := by decide +kernel
theorem d_la_law_631 : decode code 631 = .ok (.iaload, 1) := by decide +kernel
theorem d_la_law_632 : decode code 632 = .ok (.aload_n 3, 1) := by decide +kernel
theorem d_la_law_633 : decode code 633 = .ok (.invokestatic 117, 3) := by decide +kernel
theorem d_la_law_636 : decode code 636 = .ok (.istore 5, 2) := by decide +kernel
theorem d_la_law_638 : decode code 638 = .ok (.aload_n 2, 1) := by decide +kernel
theorem d_la_law_639 : decode code 639 = .ok (.aload_n 0, 1) := by decide +kernel
theorem d_la_law_640 : decode code 640 = .ok (.iload 4, 2) := by decide +kernel
theorem d_la_law_642 : decode code 642 = .ok (.iconst 1, 1) := by decide +kernel
theorem d_la_law_643 : decode code 643 = .ok (.iadd, 1) := by decide +kernel
theorem d_la_law_644 : decode code 644 = .ok (.iaload, 1) := by decide +kernel
theorem d_la_law_645 : decode code 645 = .ok (.aload_n 0, 1) := by decide +kernel
theorem d_la_law_646 : decode code 646 = .ok (.iload 4, 2) := by decide +kernel
theorem d_la_law_648 : decode code 648 = .ok (.iconst 2, 1) := by decide +kernel
theorem d_la_law_649 : decode code 649 = .ok (.iadd, 1) := by decide +kernel
theorem d_la_law_650 : decode code 650 = .ok (.iaload, 1) := by decide +kernel
theorem d_la_law_651 : decode code 651 = .ok (.invokevirtual 120, 3) := by decide +kernel
theorem d_la_law_654 : decode code 654 = .ok (.istore 6, 2) := by decide +kernel
theorem d_la_law_656 : decode code 656 = .ok (.aload_n 2, 1) := by decide +kernel
theorem d_la_law_657 : decode code 657 = .ok (.invokevirtual 87, 3) := by decide +kernel
theorem d_la_law_660 : decode code 660 = .ok (.iload 5, 2) := by decide +kernel
theorem d_la_law_662 : decode code 662 = .ok (.if_icmp .eq 5, 3) := by decide +kernel
theorem d_la_law_665 : decode code 665 = .ok (.iconst 0, 1) := by decide +kernel
theorem d_la_law_666 : decode code 666 = .ok (.ireturn, 1) := by decide +kernel
theorem d_la_law_667 : decode code 667 = .ok (.iload 5, 2) := by decide +kernel
theorem d_la_law_669 : decode code 669 = .ok (.ifCond .ne 22, 3) := by decide +kernel
theorem d_la_law_672 : decode code 672 = .ok (.aload_n 3, 1) := by decide +kernel
theorem d_la_law_673 : decode code 673 = .ok (.iconst 0, 1) := by decide +kernel
theorem d_la_law_674 : decode code 674 = .ok (.laload, 1) := by decide +kernel
theorem d_la_law_675 : decode code 675 = .ok (.iload 6, 2) := by decide +kernel
theorem d_la_law_677 : decode code 677 = .ok (.ifCond .eq 7, 3) := by decide +kernel
theorem d_la_law_680 : decode code 680 = .ok (.lconst 1, 1) := by decide +kernel
theorem d_la_law_681 : decode code 681 = .ok (.goto 4, 3) := by decide +kernel
theorem d_la_law_684 : decode code 684 = .ok (.lconst 0, 1) := by decide +kernel
theorem d_la_law_685 : decode code 685 = .ok (.lcmp, 1) := by decide +kernel
theorem d_la_law_686 : decode code 686 = .ok (.ifCond .eq 5, 3) := by decide +kernel
theorem d_la_law_689 : decode code 689 = .ok (.iconst 0, 1) := by decide +kernel
theorem d_la_law_690 : decode code 690 = .ok (.ireturn, 1) := by decide +kernel
theorem d_la_law_691 : decode code 691 = .ok (.goto 480, 3) := by decide +kernel
theorem d_la_law_694 : decode code 694 = .ok (.aload_n 1, 1) := by decide +kernel
theorem d_la_law_695 : decode code 695 = .ok (.invokevirtual 121, 3) := by decide +kernel
theorem d_la_law_698 : decode code 698 = .ok (.aload_n 2, 1) := by decide +kernel
theorem d_la_law_699 : decode code 699 = .ok (.invokevirtual 124, 3) := by decide +kernel
theorem d_la_law_702 : decode code 702 = .ok (.if_icmp .eq 469, 3) := by decide +kernel
theorem d_la_law_705 : decode code 705 = .ok (.iconst 0, 1) := by decide +kernel
theorem d_la_law_706 : decode code 706 = .ok (.ireturn, 1) := by decide +kernel
theorem d_la_law_707 : decode code 707 = .ok (.aload_n 1, 1) := by decide +kernel
theorem d_la_law_708 : decode code 708 = .ok (.aload_n 0, 1) := by decide +kernel
theorem d_la_law_709 : decode code 709 = .ok (.iload 4, 2) := by decide +kernel
theorem d_la_law_711 : decode code 711 = .ok (.iconst 1, 1) := by decide +kernel
theorem d_la_law_712 : decode code 712 = .ok (.iadd, 1) := by decide +kernel
theorem d_la_law_713 : decode code 713 = .ok (.iaload, 1) := by decide +kernel
theorem d_la_law_714 : decode code 714 = .ok (.aload_n 3, 1) := by decide +kernel
theorem d_la_law_715 : decode code 715 = .ok (.invokestatic 125, 3) := by decide +kernel
theorem d_la_law_718 : decode code 718 = .ok (.istore 5, 2) := by decide +kernel
theorem d_la_law_720 : decode code 720 = .ok (.aload_n 2, 1) := by decide +kernel
theorem d_la_law_721 : decode code 721 = .ok (.aload_n 0, 1) := by decide +kernel
theorem d_la_law_722 : decode code 722 = .ok (.iload 4, 2) := by decide +kernel
theorem d_la_law_724 : decode code 724 = .ok (.iconst 1, 1) := by decide +kernel
theorem d_la_law_725 : decode code 725 = .ok (.iadd, 1) := by decide +kernel
theorem d_la_law_726 : decode code 726 = .ok (.iaload, 1) := by decide +kernel
theorem d_la_law_727 : decode code 727 = .ok (.invokevirtual 127, 3) := by decide +kernel
theorem d_la_law_730 : decode code 730 = .ok (.istore 6, 2) := by decide +kernel
theorem d_la_law_732 : decode code 732 = .ok (.aload_n 2, 1) := by decide +kernel
theorem d_la_law_733 : decode code 733 = .ok (.invokevirtual 87, 3) := by decide +kernel
theorem d_la_law_736 : decode code 736 = .ok (.iload 5, 2) := by decide +kernel
theorem d_la_law_738 : decode code 738 = .ok (.if_icmp .eq 5, 3) := by decide +kernel
theorem d_la_law_741 : decode code 741 = .ok (.iconst 0, 1) := by decide +kernel
theorem d_la_law_742 : decode code 742 = .ok (.ireturn, 1) := by decide +kernel
theorem d_la_law_743 : decode code 743 = .ok (.iload 5, 2) := by decide +kernel
theorem d_la_law_745 : decode code 745 = .ok (.ifCond .ne 15, 3) := by decide +kernel
theorem d_la_law_748 : decode code 748 = .ok (.aload_n 3, 1) := by decide +kernel
theorem d_la_law_749 : decode code 749 = .ok (.iconst 0, 1) := by decide +kernel
theorem d_la_law_750 : decode code 750 = .ok (.laload, 1) := by decide +kernel
theorem d_la_law_751 : decode code 751 = .ok (.iload 6, 2) := by decide +kernel
theorem d_la_law_753 : decode code 753 = .ok (.i2l, 1) := by decide +kernel
theorem d_la_law_754 : decode code 754 = .ok (.lcmp, 1) := by decide +kernel
theorem d_la_law_755 : decode code 755 = .ok (.ifCond .eq 5, 3) := by decide +kernel
theorem d_la_law_758 : decode code 758 = .ok (.iconst 0, 1) := by decide +kernel
theorem d_la_law_759 : decode code 759 = .ok (.ireturn, 1) := by decide +kernel
theorem d_la_law_760 : decode code 760 = .ok (.goto 411, 3) := by decide +kernel
theorem d_la_law_763 : decode code 763 = .ok (.aload_n 1, 1) := by decide +kernel
theorem d_la_law_764 : decode code 764 = .ok (.aload_n 0, 1) := by decide +kernel
theorem d_la_law_765 : decode code 765 = .ok (.iload 4, 2) := by decide +kernel
theorem d_la_law_767 : decode code 767 = .ok (.iconst 1, 1) := by decide +kernel
theorem d_la_law_768 : decode code 768 = .ok (.iadd, 1) := by decide +kernel
theorem d_la_law_769 : decode code 769 = .ok (.iaload, 1) := by decide +kernel
theorem d_la_law_770 : decode code 770 = .ok (.aload_n 0, 1) := by decide +kernel
theorem d_la_law_771 : decode code 771 = .ok (.iload 4, 2) := by decide +kernel
theorem d_la_law_773 : decode code 773 = .ok (.iconst 2, 1) := by decide +kernel
theorem d_la_law_774 : decode code 774 = .ok (.iadd, 1) := by decide +kernel
theorem d_la_law_775 : decode code 775 = .ok (.iaload, 1) := by decide +kernel
theorem d_la_law_776 : decode code 776 = .ok (.aload_n 0, 1) := by decide +kernel
theorem d_la_law_777 : decode code 777 = .ok (.iload 4, 2) := by decide +kernel
theorem d_la_law_779 : decode code 779 = .ok (.iconst 3, 1) := by decide +kernel
theorem d_la_law_780 : decode code 780 = .ok (.iadd, 1) := by decide +kernel
theorem d_la_law_781 : decode code 781 = .ok (.iaload, 1) := by decide +kernel
theorem d_la_law_782 : decode code 782 = .ok (.aload_n 3, 1) := by decide +kernel
theorem d_la_law_783 : decode code 783 = .ok (.invokestatic 128, 3) := by decide +kernel
theorem d_la_law_786 : decode code 786 = .ok (.istore 5, 2) := by decide +kernel
theorem d_la_law_788 : decode code 788 = .ok (.aload_n 2, 1) := by decide +kernel
theorem d_la_law_789 : decode code 789 = .ok (.aload_n 0, 1) := by decide +kernel
end
section
theorem d_la_law_790 : decode code 790 = .ok (.iload 4, 2) := by decide +kernel
theorem d_la_law_792 : decode code 792 = .ok (.iconst 1, 1) := by decide +kernel
theorem d_la_law_793 : decode code 793 = .ok (.iadd, 1) := by decide +kernel
theorem d_la_law_794 : decode code 794 = .ok (.iaload, 1) := by decide +kernel
theorem d_la_law_795 : decode code 795 = .ok (.aload_n 0, 1) := by decide +kernel
theorem d_la_law_796 : decode code 796 = .ok (.iload 4, 2) := by decide +kernel
theorem d_la_law_798 : decode code 798 = .ok (.iconst 2, 1) := by decide +kernel
theorem d_la_law_799 : decode code 799 = .ok (.iadd, 1) := by decide +kernel
theorem d_la_law_800 : decode code 800 = .ok (.iaload, 1) := by decide +kernel
theorem d_la_law_801 : decode code 801 = .ok (.aload_n 0, 1) := by decide +kernel
theorem d_la_law_802 : decode code 802 = .ok (.iload 4, 2) := by decide +kernel
theorem d_la_law_804 : decode code 804 = .ok (.iconst 3, 1) := by decide +kernel
theorem d_la_law_805 : decode code 805 = .ok (.iadd, 1) := by decide +kernel
theorem d_la_law_806 : decode code 806 = .ok (.iaload, 1) := by decide +kernel
theorem d_la_law_807 : decode code 807 = .ok (.invokevirtual 130, 3) := by decide +kernel
theorem d_la_law_810 : decode code 810 = .ok (.istore 6, 2) := by decide +kernel
theorem d_la_law_812 : decode code 812 = .ok (.aload_n 2, 1) := by decide +kernel
theorem d_la_law_813 : decode code 813 = .ok (.invokevirtual 87, 3) := by decide +kernel
theorem d_la_law_816 : decode code 816 = .ok (.iload 5, 2) := by decide +kernel
theorem d_la_law_818 : decode code 818 = .ok (.if_icmp .eq 5, 3) := by decide +kernel
theorem d_la_law_821 : decode code 821 = .ok (.iconst 0, 1) := by decide +kernel
theorem d_la_law_822 : decode code 822 = .ok (.ireturn, 1) := by decide +kernel
theorem d_la_law_823 : decode code 823 = .ok (.iload 5, 2) := by decide +kernel
theorem d_la_law_825 : decode code 825 = .ok (.ifCond .ne 22, 3) := by decide +kernel
theorem d_la_law_828 : decode code 828 = .ok (.aload_n 3, 1) := by decide +kernel
theorem d_la_law_829 : decode code 829 = .ok (.iconst 0, 1) := by decide +kernel
theorem d_la_law_830 : decode code 830 = .ok (.laload, 1) := by decide +kernel
theorem d_la_law_831 : decode code 831 = .ok (.iload 6, 2) := by decide +kernel
theorem d_la_law_833 : decode code 833 = .ok (.ifCond .eq 7, 3) := by decide +kernel
theorem d_la_law_836 : decode code 836 = .ok (.lconst 1, 1) := by decide +kernel
theorem d_la_law_837 : decode code 837 = .ok (.goto 4, 3) := by decide +kernel
theorem d_la_law_840 : decode code 840 = .ok (.lconst 0, 1) := by decide +kernel
theorem d_la_law_841 : decode code 841 = .ok (.lcmp, 1) := by decide +kernel
theorem d_la_law_842 : decode code 842 = .ok (.ifCond .eq 5, 3) := by decide +kernel
theorem d_la_law_845 : decode code 845 = .ok (.iconst 0, 1) := by decide +kernel
theorem d_la_law_846 : decode code 846 = .ok (.ireturn, 1) := by decide +kernel
theorem d_la_law_847 : decode code 847 = .ok (.goto 324, 3) := by decide +kernel
theorem d_la_law_850 : decode code 850 = .ok (.aload_n 1, 1) := by decide +kernel
theorem d_la_law_851 : decode code 851 = .ok (.aload_n 0, 1) := by decide +kernel
theorem d_la_law_852 : decode code 852 = .ok (.iload 4, 2) := by decide +kernel
theorem d_la_law_854 : decode code 854 = .ok (.iconst 1, 1) := by decide +kernel
theorem d_la_law_855 : decode code 855 = .ok (.iadd, 1) := by decide +kernel
theorem d_la_law_856 : decode code 856 = .ok (.iaload, 1) := by decide +kernel
theorem d_la_law_857 : decode code 857 = .ok (.aload_n 0, 1) := by decide +kernel
theorem d_la_law_858 : decode code 858 = .ok (.iload 4, 2) := by decide +kernel
theorem d_la_law_860 : decode code 860 = .ok (.iconst 2, 1) := by decide +kernel
theorem d_la_law_861 : decode code 861 = .ok (.iadd, 1) := by decide +kernel
theorem d_la_law_862 : decode code 862 = .ok (.iaload, 1) := by decide +kernel
theorem d_la_law_863 : decode code 863 = .ok (.aload_n 3, 1) := by decide +kernel
theorem d_la_law_864 : decode code 864 = .ok (.invokestatic 131, 3) := by decide +kernel
theorem d_la_law_867 : decode code 867 = .ok (.istore 5, 2) := by decide +kernel
theorem d_la_law_869 : decode code 869 = .ok (.aload_n 2, 1) := by decide +kernel
theorem d_la_law_870 : decode code 870 = .ok (.aload_n 0, 1) := by decide +kernel
theorem d_la_law_871 : decode code 871 = .ok (.iload 4, 2) := by decide +kernel
theorem d_la_law_873 : decode code 873 = .ok (.iconst 1, 1) := by decide +kernel
theorem d_la_law_874 : decode code 874 = .ok (.iadd, 1) := by decide +kernel
theorem d_la_law_875 : decode code 875 = .ok (.iaload, 1) := by decide +kernel
theorem d_la_law_876 : decode code 876 = .ok (.aload_n 0, 1) := by decide +kernel
theorem d_la_law_877 : decode code 877 = .ok (.iload 4, 2) := by decide +kernel
theorem d_la_law_879 : decode code 879 = .ok (.iconst 2, 1) := by decide +kernel
theorem d_la_law_880 : decode code 880 = .ok (.iadd, 1) := by decide +kernel
theorem d_la_law_881 : decode code 881 = .ok (.iaload, 1) := by decide +kernel
theorem d_la_law_882 : decode code 882 = .ok (.invokevirtual 133, 3) := by decide +kernel
theorem d_la_law_885 : decode code 885 = .ok (.lstore 6, 2) := by decide +kernel
theorem d_la_law_887 : decode code 887 = .ok (.aload_n 2, 1) := by decide +kernel
theorem d_la_law_888 : decode code 888 = .ok (.invokevirtual 87, 3) := by decide +kernel
theorem d_la_law_891 : decode code 891 = .ok (.iload 5, 2) := by decide +kernel
theorem d_la_law_893 : decode code 893 = .ok (.if_icmp .eq 5, 3) := by decide +kernel
theorem d_la_law_896 : decode code 896 = .ok (.iconst 0, 1) := by decide +kernel
theorem d_la_law_897 : decode code 897 = .ok (.ireturn, 1) := by decide +kernel
theorem d_la_law_898 : decode code 898 = .ok (.iload 5, 2) := by decide +kernel
theorem d_la_law_900 : decode code 900 = .ok (.ifCond .ne 14, 3) := by decide +kernel
theorem d_la_law_903 : decode code 903 = .ok (.aload_n 3, 1) := by decide +kernel
theorem d_la_law_904 : decode code 904 = .ok (.iconst 0, 1) := by decide +kernel
theorem d_la_law_905 : decode code 905 = .ok (.laload, 1) := by decide +kernel
theorem d_la_law_906 : decode code 906 = .ok (.lload 6, 2) := by decide +kernel
theorem d_la_law_908 : decode code 908 = .ok (.lcmp, 1) := by decide +kernel
theorem d_la_law_909 : decode code 909 = .ok (.ifCond .eq 5, 3) := by decide +kernel
theorem d_la_law_912 : decode code 912 = .ok (.iconst 0, 1) := by decide +kernel
theorem d_la_law_913 : decode code 913 = .ok (.ireturn, 1) := by decide +kernel
theorem d_la_law_914 : decode code 914 = .ok (.goto 257, 3) := by decide +kernel
theorem d_la_law_917 : decode code 917 = .ok (.aload_n 1, 1) := by decide +kernel
theorem d_la_law_918 : decode code 918 = .ok (.invokevirtual 134, 3) := by decide +kernel
theorem d_la_law_921 : decode code 921 = .ok (.aload_n 2, 1) := by decide +kernel
theorem d_la_law_922 : decode code 922 = .ok (.invokevirtual 138, 3) := by decide +kernel
theorem d_la_law_925 : decode code 925 = .ok (.if_icmp .eq 246, 3) := by decide +kernel
theorem d_la_law_928 : decode code 928 = .ok (.iconst 0, 1) := by decide +kernel
theorem d_la_law_929 : decode code 929 = .ok (.ireturn, 1) := by decide +kernel
theorem d_la_law_930 : decode code 930 = .ok (.aload_n 1, 1) := by decide +kernel
theorem d_la_law_931 : decode code 931 = .ok (.aload_n 0, 1) := by decide +kernel
theorem d_la_law_932 : decode code 932 = .ok (.iload 4, 2) := by decide +kernel
theorem d_la_law_934 : decode code 934 = .ok (.iconst 1, 1) := by decide +kernel
theorem d_la_law_935 : decode code 935 = .ok (.iadd, 1) := by decide +kernel
theorem d_la_law_936 : decode code 936 = .ok (.iaload, 1) := by decide +kernel
theorem d_la_law_937 : decode code 937 = .ok (.aload_n 0, 1) := by decide +kernel
theorem d_la_law_938 : decode code 938 = .ok (.iload 4, 2) := by decide +kernel
theorem d_la_law_940 : decode code 940 = .ok (.iconst 2, 1) := by decide +kernel
theorem d_la_law_941 : decode code 941 = .ok (.iadd, 1) := by decide +kernel
theorem d_la_law_942 : decode code 942 = .ok (.iaload, 1) := by decide +kernel
theorem d_la_law_943 : decode code 943 = .ok (.aload_n 3, 1) := by decide +kernel
theorem d_la_law_944 : decode code 944 = .ok (.invokestatic 139, 3) := by decide +kernel
theorem d_la_law_947 : decode code 947 = .ok (.istore 5, 2) := by decide +kernel
theorem d_la_law_949 : decode code 949 = .ok (.aload_n 2, 1) := by decide +kernel
theorem d_la_law_950 : decode code 950 = .ok (.aload_n 0, 1) := by decide +kernel
theorem d_la_law_951 : decode code 951 = .ok (.iload 4, 2) := by decide +kernel
theorem d_la_law_953 : decode code 953 = .ok (.iconst 1, 1) := by decide +kernel
theorem d_la_law_954 : decode code 954 = .ok (.iadd, 1) := by decide +kernel
theorem d_la_law_955 : decode code 955 = .ok (.iaload, 1) := by decide +kernel
theorem d_la_law_956 : decode code 956 = .ok (.aload_n 0, 1) := by decide +kernel
theorem d_la_law_957 : decode code 957 = .ok (.iload 4, 2) := by decide +kernel
theorem d_la_law_959 : decode code 959 = .ok (.iconst 2, 1) := by decide +kernel
theorem d_la_law_960 : decode code 960 = .ok (.iadd, 1) := by decide +kernel
theorem d_la_law_961 : decode code 961 = .ok (.iaload, 1) := by decide +kernel
theorem d_la_law_962 : decode code 962 = .ok (.invokevirtual 141, 3) := by decide +kernel
theorem d_la_law_965 : decode code 965 = .ok (.lstore 6, 2) := by decide +kernel
theorem d_la_law_967 : decode code 967 = .ok (.aload_n 2, 1) := by decide +kernel
theorem d_la_law_968 : decode code 968 = .ok (.invokevirtual 87, 3) := by decide +kernel
theorem d_la_law_971 : decode code 971 = .ok (.iload 5, 2) := by decide +kernel
theorem d_la_law_973 : decode code 973 = .ok (.if_icmp .eq 5, 3) := by decide +kernel
theorem d_la_law_976 : decode code 976 = .ok (.iconst 0, 1) := by decide +kernel
theorem d_la_law_977 : decode code 977 = .ok (.ireturn, 1) := by decide +kernel
theorem d_la_law_978 : decode code 978 = .ok (.iload 5, 2) := by decide +kernel
theorem d_la_law_980 : decode code 980 = .ok (.ifCond .ne 14, 3) := by decide +kernel
theorem d_la_law_983 : decode code 983 = .ok (.aload_n 3, 1) := by decide +kernel
theorem d_la_law_984 : decode code 984 = .ok (.iconst 0, 1) := by decide +kernel
theorem d_la_law_985 : decode code 985 = .ok (.laload, 1) := by decide +kernel
theorem d_la_law_986 : decode code 986 = .ok (.lload 6, 2) := by decide +kernel
theorem d_la_law_988 : decode code 988 = .ok (.lcmp, 1) := by decide +kernel
theorem d_la_law_989 : decode code 989 = .ok (.ifCond .eq 5, 3) := by decide +kernel
theorem d_la_law_992 : decode code 992 = .ok (.iconst 0, 1) := by decide +kernel
theorem d_la_law_993 : decode code 993 = .ok (.ireturn, 1) := by decide +kernel
theorem d_la_law_994 : decode code 994 = .ok (.goto 177, 3) := by decide +kernel
theorem d_la_law_997 : decode code 997 = .ok (.aload_n 1, 1) := by decide +kernel
theorem d_la_law_998 : decode code 998 = .ok (.aload_n 0, 1) := by decide +kernel
theorem d_la_law_999 : decode code 999 = .ok (.iload 4, 2) := by decide +kernel
theorem d_la_law_1001 : decode code 1001 = .ok (.iconst 1, 1) := by decide +kernel
theorem d_la_law_1002 : decode code 1002 = .ok (.iadd, 1) := by decide +kernel
theorem d_la_law_1003 : decode code 1003 = .ok (.iaload, 1) := by decide +kernel
theorem d_la_law_1004 : decode code 1004 = .ok (.aload_n 3, 1) := by decide +kernel
theorem d_la_law_1005 : decode code 1005 = .ok (.invokestatic 142, 3) := by decide +kernel
theorem d_la_law_1008 : decode code 1008 = .ok (.istore 5, 2) := by decide +kernel
theorem d_la_law_1010 : decode code 1010 = .ok (.aload_n 2, 1) := by decide +kernel
theorem d_la_law_1011 : decode code 1011 = .ok (.aload_n 0, 1) := by decide +kernel
theorem d_la_law_1012 : decode code 1012 = .ok (.iload 4, 2) := by decide +kernel
theorem d_la_law_1014 : decode code 1014 = .ok (.iconst 1, 1) := by decide +kernel
theorem d_la_law_1015 : decode code 1015 = .ok (.iadd, 1) := by decide +kernel
theorem d_la_law_1016 : decode code 1016 = .ok (.iaload, 1) := by decide +kernel
theorem d_la_law_1017 : decode code 1017 = .ok (.invokevirtual 144, 3) := by decide +kernel
theorem d_la_law_1020 : decode code 1020 = .ok (.istore 6, 2) := by decide +kernel
theorem d_la_law_1022 : decode code 1022 = .ok (.aload_n 2, 1) := by decide +kernel
end
section
theorem d_la_law_1023 : decode code 1023 = .ok (.invokevirtual 87, 3) := by decide +kernel
theorem d_la_law_1026 : decode code 1026 = .ok (.iload 5, 2) := by decide +kernel
theorem d_la_law_1028 : decode code 1028 = .ok (.if_icmp .eq 5, 3) := by decide +kernel
theorem d_la_law_1031 : decode code 1031 = .ok (.iconst 0, 1) := by decide +kernel
theorem d_la_law_1032 : decode code 1032 = .ok (.ireturn, 1) := by decide +kernel
theorem d_la_law_1033 : decode code 1033 = .ok (.iload 5, 2) := by decide +kernel
theorem d_la_law_1035 : decode code 1035 = .ok (.ifCond .ne 22, 3) := by decide +kernel
theorem d_la_law_1038 : decode code 1038 = .ok (.aload_n 3, 1) := by decide +kernel
theorem d_la_law_1039 : decode code 1039 = .ok (.iconst 0, 1) := by decide +kernel
theorem d_la_law_1040 : decode code 1040 = .ok (.laload, 1) := by decide +kernel
theorem d_la_law_1041 : decode code 1041 = .ok (.iload 6, 2) := by decide +kernel
theorem d_la_law_1043 : decode code 1043 = .ok (.ifCond .eq 7, 3) := by decide +kernel
theorem d_la_law_1046 : decode code 1046 = .ok (.lconst 1, 1) := by decide +kernel
theorem d_la_law_1047 : decode code 1047 = .ok (.goto 4, 3) := by decide +kernel
theorem d_la_law_1050 : decode code 1050 = .ok (.lconst 0, 1) := by decide +kernel
theorem d_la_law_1051 : decode code 1051 = .ok (.lcmp, 1) := by decide +kernel
theorem d_la_law_1052 : decode code 1052 = .ok (.ifCond .eq 5, 3) := by decide +kernel
theorem d_la_law_1055 : decode code 1055 = .ok (.iconst 0, 1) := by decide +kernel
theorem d_la_law_1056 : decode code 1056 = .ok (.ireturn, 1) := by decide +kernel
theorem d_la_law_1057 : decode code 1057 = .ok (.goto 114, 3) := by decide +kernel
theorem d_la_law_1060 : decode code 1060 = .ok (.aload_n 1, 1) := by decide +kernel
theorem d_la_law_1061 : decode code 1061 = .ok (.aload_n 0, 1) := by decide +kernel
theorem d_la_law_1062 : decode code 1062 = .ok (.iload 4, 2) := by decide +kernel
theorem d_la_law_1064 : decode code 1064 = .ok (.iconst 1, 1) := by decide +kernel
theorem d_la_law_1065 : decode code 1065 = .ok (.iadd, 1) := by decide +kernel
theorem d_la_law_1066 : decode code 1066 = .ok (.iaload, 1) := by decide +kernel
theorem d_la_law_1067 : decode code 1067 = .ok (.aload_n 3, 1) := by decide +kernel
theorem d_la_law_1068 : decode code 1068 = .ok (.invokestatic 145, 3) := by decide +kernel
theorem d_la_law_1071 : decode code 1071 = .ok (.istore 5, 2) := by decide +kernel
theorem d_la_law_1073 : decode code 1073 = .ok (.aload_n 2, 1) := by decide +kernel
theorem d_la_law_1074 : decode code 1074 = .ok (.aload_n 0, 1) := by decide +kernel
theorem d_la_law_1075 : decode code 1075 = .ok (.iload 4, 2) := by decide +kernel
theorem d_la_law_1077 : decode code 1077 = .ok (.iconst 1, 1) := by decide +kernel
theorem d_la_law_1078 : decode code 1078 = .ok (.iadd, 1) := by decide +kernel
theorem d_la_law_1079 : decode code 1079 = .ok (.iaload, 1) := by decide +kernel
theorem d_la_law_1080 : decode code 1080 = .ok (.invokevirtual 147, 3) := by decide +kernel
theorem d_la_law_1083 : decode code 1083 = .ok (.lstore 6, 2) := by decide +kernel
theorem d_la_law_1085 : decode code 1085 = .ok (.aload_n 2, 1) := by decide +kernel
theorem d_la_law_1086 : decode code 1086 = .ok (.invokevirtual 87, 3) := by decide +kernel
theorem d_la_law_1089 : decode code 1089 = .ok (.iload 5, 2) := by decide +kernel
theorem d_la_law_1091 : decode code 1091 = .ok (.if_icmp .eq 5, 3) := by decide +kernel
theorem d_la_law_1094 : decode code 1094 = .ok (.iconst 0, 1) := by decide +kernel
theorem d_la_law_1095 : decode code 1095 = .ok (.ireturn, 1) := by decide +kernel
theorem d_la_law_1096 : decode code 1096 = .ok (.iload 5, 2) := by decide +kernel
theorem d_la_law_1098 : decode code 1098 = .ok (.ifCond .ne 14, 3) := by decide +kernel
theorem d_la_law_1101 : decode code 1101 = .ok (.aload_n 3, 1) := by decide +kernel
theorem d_la_law_1102 : decode code 1102 = .ok (.iconst 0, 1) := by decide +kernel
theorem d_la_law_1103 : decode code 1103 = .ok (.laload, 1) := by decide +kernel
theorem d_la_law_1104 : decode code 1104 = .ok (.lload 6, 2) := by decide +kernel
theorem d_la_law_1106 : decode code 1106 = .ok (.lcmp, 1) := by decide +kernel
theorem d_la_law_1107 : decode code 1107 = .ok (.ifCond .eq 5, 3) := by decide +kernel
theorem d_la_law_1110 : decode code 1110 = .ok (.iconst 0, 1) := by decide +kernel
theorem d_la_law_1111 : decode code 1111 = .ok (.ireturn, 1) := by decide +kernel
theorem d_la_law_1112 : decode code 1112 = .ok (.goto 59, 3) := by decide +kernel
theorem d_la_law_1115 : decode code 1115 = .ok (.aload_n 1, 1) := by decide +kernel
theorem d_la_law_1116 : decode code 1116 = .ok (.aload_n 0, 1) := by decide +kernel
theorem d_la_law_1117 : decode code 1117 = .ok (.iload 4, 2) := by decide +kernel
theorem d_la_law_1119 : decode code 1119 = .ok (.iconst 1, 1) := by decide +kernel
theorem d_la_law_1120 : decode code 1120 = .ok (.iadd, 1) := by decide +kernel
theorem d_la_law_1121 : decode code 1121 = .ok (.iaload, 1) := by decide +kernel
theorem d_la_law_1122 : decode code 1122 = .ok (.aload_n 3, 1) := by decide +kernel
theorem d_la_law_1123 : decode code 1123 = .ok (.invokestatic 148, 3) := by decide +kernel
theorem d_la_law_1126 : decode code 1126 = .ok (.istore 5, 2) := by decide +kernel
theorem d_la_law_1128 : decode code 1128 = .ok (.aload_n 2, 1) := by decide +kernel
theorem d_la_law_1129 : decode code 1129 = .ok (.aload_n 0, 1) := by decide +kernel
theorem d_la_law_1130 : decode code 1130 = .ok (.iload 4, 2) := by decide +kernel
theorem d_la_law_1132 : decode code 1132 = .ok (.iconst 1, 1) := by decide +kernel
theorem d_la_law_1133 : decode code 1133 = .ok (.iadd, 1) := by decide +kernel
theorem d_la_law_1134 : decode code 1134 = .ok (.iaload, 1) := by decide +kernel
theorem d_la_law_1135 : decode code 1135 = .ok (.invokevirtual 150, 3) := by decide +kernel
theorem d_la_law_1138 : decode code 1138 = .ok (.istore 6, 2) := by decide +kernel
theorem d_la_law_1140 : decode code 1140 = .ok (.aload_n 2, 1) := by decide +kernel
theorem d_la_law_1141 : decode code 1141 = .ok (.invokevirtual 87, 3) := by decide +kernel
theorem d_la_law_1144 : decode code 1144 = .ok (.iload 5, 2) := by decide +kernel
theorem d_la_law_1146 : decode code 1146 = .ok (.if_icmp .eq 5, 3) := by decide +kernel
theorem d_la_law_1149 : decode code 1149 = .ok (.iconst 0, 1) := by decide +kernel
theorem d_la_law_1150 : decode code 1150 = .ok (.ireturn, 1) := by decide +kernel
theorem d_la_law_1151 : decode code 1151 = .ok (.iload 5, 2) := by decide +kernel
theorem d_la_law_1153 : decode code 1153 = .ok (.ifCond .ne 15, 3) := by decide +kernel
theorem d_la_law_1156 : decode code 1156 = .ok (.aload_n 3, 1) := by decide +kernel
theorem d_la_law_1157 : decode code 1157 = .ok (.iconst 0, 1) := by decide +kernel
theorem d_la_law_1158 : decode code 1158 = .ok (.laload, 1) := by decide +kernel
theorem d_la_law_1159 : decode code 1159 = .ok (.iload 6, 2) := by decide +kernel
theorem d_la_law_1161 : decode code 1161 = .ok (.i2l, 1) := by decide +kernel
theorem d_la_law_1162 : decode code 1162 = .ok (.lcmp, 1) := by decide +kernel
theorem d_la_law_1163 : decode code 1163 = .ok (.ifCond .eq 5, 3) := by decide +kernel
theorem d_la_law_1166 : decode code 1166 = .ok (.iconst 0, 1) := by decide +kernel
theorem d_la_law_1167 : decode code 1167 = .ok (.ireturn, 1) := by decide +kernel
theorem d_la_law_1168 : decode code 1168 = .ok (.goto 3, 3) := by decide +kernel
theorem d_la_law_1171 : decode code 1171 = .ok (.iinc 4 5, 3) := by decide +kernel
theorem d_la_law_1174 : decode code 1174 = .ok (.goto (-1131), 3) := by decide +kernel
theorem d_la_law_1177 : decode code 1177 = .ok (.iconst 1, 1) := by decide +kernel
theorem d_la_law_1178 : decode code 1178 = .ok (.ireturn, 1) := by decide +kernel
theorem d_in_bitCount_0 : decode b_in_bitCount 0 = .ok (.iload_n 0, 1) := by decide +kernel
theorem d_in_bitCount_1 : decode b_in_bitCount 1 = .ok (.iload_n 0, 1) := by decide +kernel
theorem d_in_bitCount_2 : decode b_in_bitCount 2 = .ok (.iconst 1, 1) := by decide +kernel
theorem d_in_bitCount_3 : decode b_in_bitCount 3 = .ok (.iushr, 1) := by decide +kernel
theorem d_in_bitCount_4 : decode b_in_bitCount 4 = .ok (.ldc_w 265, 3) := by decide +kernel
theorem d_in_bitCount_7 : decode b_in_bitCount 7 = .ok (.iand, 1) := by decide +kernel
theorem d_in_bitCount_8 : decode b_in_bitCount 8 = .ok (.isub, 1) := by decide +kernel
theorem d_in_bitCount_9 : decode b_in_bitCount 9 = .ok (.istore_n 0, 1) := by decide +kernel
theorem d_in_bitCount_10 : decode b_in_bitCount 10 = .ok (.iload_n 0, 1) := by decide +kernel
theorem d_in_bitCount_11 : decode b_in_bitCount 11 = .ok (.ldc_w 266, 3) := by decide +kernel
theorem d_in_bitCount_14 : decode b_in_bitCount 14 = .ok (.iand, 1) := by decide +kernel
theorem d_in_bitCount_15 : decode b_in_bitCount 15 = .ok (.iload_n 0, 1) := by decide +kernel
theorem d_in_bitCount_16 : decode b_in_bitCount 16 = .ok (.iconst 2, 1) := by decide +kernel
theorem d_in_bitCount_17 : decode b_in_bitCount 17 = .ok (.iushr, 1) := by decide +kernel
theorem d_in_bitCount_18 : decode b_in_bitCount 18 = .ok (.ldc_w 266, 3) := by decide +kernel
theorem d_in_bitCount_21 : decode b_in_bitCount 21 = .ok (.iand, 1) := by decide +kernel
theorem d_in_bitCount_22 : decode b_in_bitCount 22 = .ok (.iadd, 1) := by decide +kernel
theorem d_in_bitCount_23 : decode b_in_bitCount 23 = .ok (.istore_n 0, 1) := by decide +kernel
theorem d_in_bitCount_24 : decode b_in_bitCount 24 = .ok (.iload_n 0, 1) := by decide +kernel
theorem d_in_bitCount_25 : decode b_in_bitCount 25 = .ok (.iload_n 0, 1) := by decide +kernel
theorem d_in_bitCount_26 : decode b_in_bitCount 26 = .ok (.iconst 4, 1) := by decide +kernel
theorem d_in_bitCount_27 : decode b_in_bitCount 27 = .ok (.iushr, 1) := by decide +kernel
theorem d_in_bitCount_28 : decode b_in_bitCount 28 = .ok (.iadd, 1) := by decide +kernel
theorem d_in_bitCount_29 : decode b_in_bitCount 29 = .ok (.ldc_w 267, 3) := by decide +kernel
theorem d_in_bitCount_32 : decode b_in_bitCount 32 = .ok (.iand, 1) := by decide +kernel
theorem d_in_bitCount_33 : decode b_in_bitCount 33 = .ok (.istore_n 0, 1) := by decide +kernel
theorem d_in_bitCount_34 : decode b_in_bitCount 34 = .ok (.iload_n 0, 1) := by decide +kernel
theorem d_in_bitCount_35 : decode b_in_bitCount 35 = .ok (.iload_n 0, 1) := by decide +kernel
theorem d_in_bitCount_36 : decode b_in_bitCount 36 = .ok (.bipush 8, 2) := by decide +kernel
theorem d_in_bitCount_38 : decode b_in_bitCount 38 = .ok (.iushr, 1) := by decide +kernel
theorem d_in_bitCount_39 : decode b_in_bitCount 39 = .ok (.iadd, 1) := by decide +kernel
theorem d_in_bitCount_40 : decode b_in_bitCount 40 = .ok (.istore_n 0, 1) := by decide +kernel
theorem d_in_bitCount_41 : decode b_in_bitCount 41 = .ok (.iload_n 0, 1) := by decide +kernel
theorem d_in_bitCount_42 : decode b_in_bitCount 42 = .ok (.iload_n 0, 1) := by decide +kernel
theorem d_in_bitCount_43 : decode b_in_bitCount 43 = .ok (.bipush 16, 2) := by decide +kernel
theorem d_in_bitCount_45 : decode b_in_bitCount 45 = .ok (.iushr, 1) := by decide +kernel
theorem d_in_bitCount_46 : decode b_in_bitCount 46 = .ok (.iadd, 1) := by decide +kernel
theorem d_in_bitCount_47 : decode b_in_bitCount 47 = .ok (.istore_n 0, 1) := by decide +kernel
theorem d_in_bitCount_48 : decode b_in_bitCount 48 = .ok (.iload_n 0, 1) := by decide +kernel
theorem d_in_bitCount_49 : decode b_in_bitCount 49 = .ok (.bipush 63, 2) := by decide +kernel
theorem d_in_bitCount_51 : decode b_in_bitCount 51 = .ok (.iand, 1) := by decide +kernel
theorem d_in_bitCount_52 : decode b_in_bitCount 52 = .ok (.ireturn, 1) := by decide +kernel
end
section
/-! The heap as a partial function from addresses to what lies there: worlds that need no lists, no frame rule. -/
abbrev gh : Type := Nat → Option va_E
def gP (D : va_G) (cl : List vw_C) (G : gh) (H : Heap) : Prop := ∀ (a : Nat) (e : va_E), G a = some e → va_at D cl (a, e) H
def gup (G : gh) (a : Nat) (e : va_E) : gh := fun q => if q = a then some e else G q
def gA (G : gh) (sz : Nat) : Nat → Prop := fun q => G q ≠ none ∨ sz ≤ q
theorem gup_self (G : gh) (a : Nat) (e : va_E) : gup G a e a = some e := by simp [gup]
theorem gup_ne (G : gh) {a q : Nat} (e : va_E) (h : q ≠ a) : gup G a e q = G q := by simp [gup, h]
theorem gup_gup (G : gh) (a : Nat) (e e' : va_E) : gup (gup G a e) a e' = gup G a e' := by
  funext q
  by_cases h : q = a
  · subst h; rw [gup_self, gup_self]
  · rw [gup_ne _ _ h, gup_ne _ _ h, gup_ne _ _ h]
theorem gup_same {G : gh} {a : Nat} {e : va_E} (h : G a = some e) : gup G a e = G := by
  funext q
  by_cases hq : q = a
  · subst hq; rw [gup_self, h]
  · rw [gup_ne _ _ hq]
theorem gP.one {D : va_G} {cl : List vw_C} {G : gh} {H : Heap} (h : gP D cl G H) {a : Nat} {e : va_E} (he : G a = some e) : va_P D cl [(a, e)] H := by
  intro k q hk
  cases k with
  | zero => cases hk; exact h a e he
  | succ k => simp at hk
theorem gP.lt {D : va_G} {cl : List vw_C} {G : gh} {H : Heap} (h : gP D cl G H) {a : Nat} {e : va_E} (he : G a = some e) : a < H.size := (h a e he).lt
theorem gP.put {D : va_G} {cl : List vw_C} {G : gh} {H H1 : Heap} (h : gP D cl G H) {a : Nat} {e : va_E} (he : va_at D cl (a, e) H1) (oq : ∀ q : Nat, q ≠ a → H1[q]? = H[q]?) : gP D cl (gup G a e) H1 := by
  intro q e' hq
  by_cases hqa : q = a
  · subst hqa
    rw [gup_self] at hq
    cases hq
    exact he
  · rw [gup_ne _ _ hqa] at hq
    exact (h q e' hq).kept (oq q hqa)
theorem gP.push {D : va_G} {cl : List vw_C} {G : gh} {H H1 : Heap} (h : gP D cl G H) {e : va_E} (he : va_at D cl (H.size, e) H1) (oq : ∀ q : Nat, q < H.size → H1[q]? = H[q]?) : gP D cl (gup G H.size e) H1 := by
  intro q e' hq
  by_cases hqa : q = H.size
  · subst hqa
    rw [gup_self] at hq
    cases hq
    exact he
  · rw [gup_ne _ _ hqa] at hq
    exact (h q e' hq).kept (oq q (h.lt hq))
theorem gP.kept {D : va_G} {cl : List vw_C} {G : gh} {H H1 : Heap} (h : gP D cl G H) (oq : ∀ q : Nat, q < H.size → H1[q]? = H[q]?) : gP D cl G H1 := fun q e hq => (h q e hq).kept (oq q (h.lt hq))
theorem gP.fresh {D : va_G} {cl : List vw_C} {G : gh} {H : Heap} (h : gP D cl G H) {q : Nat} (hq : H.size ≤ q) : G q = none := by
  cases hg : G q with
  | none => rfl
  | some e => have := h.lt hg; omega
/-- where a walk stands: the heap holds G, what G names may be written, nothing else has been -/
def gS (A : Nat → Prop) (H0 : Heap) (D : va_G) (cl : List vw_C) (G : gh) (H : Heap) (locs : List Loc) : Prop :=
  gP D cl G H ∧ (∀ a, G a ≠ none → A a) ∧ va_S A H0 H locs ∧ ∀ q, H0.size ≤ q → A q
theorem gS.start {D : va_G} {cl : List vw_C} {G : gh} {H : Heap} (h : gP D cl G H) : gS (gA G H.size) H D cl G H [] :=
  ⟨h, fun _ ha => Or.inl ha, va_S.rf, fun _ hq => Or.inr hq⟩
theorem gS.free {A : Nat → Prop} {H0 : Heap} {D : va_G} {cl : List vw_C} {G : gh} {H : Heap} {locs : List Loc} (h : gS A H0 D cl G H locs) : ∀ q, gA G H.size q → A q := by
  intro q hq
  rcases hq with h1 | h1
  · exact h.2.1 q h1
  · exact h.2.2.2 q (Nat.le_trans h.2.2.1.1 h1)
/-- behind a call -/
theorem gS.back {A : Nat → Prop} {H0 : Heap} {D : va_G} {cl : List vw_C} {G G' : gh} {H H1 : Heap} {locs locs1 : List Loc} (h : gS A H0 D cl G H locs) (hP : gP D cl G' H1) (hsub : ∀ a, G' a ≠ none → gA G H.size a) (hS : va_S A H0 H1 locs1) : gS A H0 D cl G' H1 locs1 :=
  ⟨hP, fun a ha => h.free a (hsub a ha), hS, h.2.2.2⟩
theorem gS.put {A : Nat → Prop} {H0 : Heap} {D : va_G} {cl : List vw_C} {G : gh} {H H1 : Heap} {locs : List Loc} {a : Nat} {e0 e : va_E} {i : Nat} (h : gS A H0 D cl G H locs) (ha : G a = some e0) (he : va_at D cl (a, e) H1) (hz : H1.size = H.size) (oq : ∀ q : Nat, q ≠ a → H1[q]? = H[q]?) : gS A H0 D cl (gup G a e) H1 (locs ++ [⟨a, i⟩]) := by
  have hAa : A a := h.2.1 a (by rw [ha]; exact Option.some_ne_none _)
  refine ⟨h.1.put he oq, fun q hq => ?_, h.2.2.1.put hz oq hAa, h.2.2.2⟩
  by_cases hqa : q = a
  · subst hqa; exact hAa
  · rw [gup_ne _ _ hqa] at hq
    exact h.2.1 q hq
theorem gS.push {A : Nat → Prop} {H0 : Heap} {D : va_G} {cl : List vw_C} {G : gh} {H H1 : Heap} {locs : List Loc} {e : va_E} (h : gS A H0 D cl G H locs) (he : va_at D cl (H.size, e) H1) (hz : H.size ≤ H1.size) (oq : ∀ q : Nat, q < H.size → H1[q]? = H[q]?) : gS A H0 D cl (gup G H.size e) H1 locs := by
  refine ⟨h.1.push he oq, fun q hq => ?_, ⟨Nat.le_trans h.2.2.1.1 hz, fun q h1 h2 => (oq q (Nat.lt_of_lt_of_le h1 h.2.2.1.1)).trans (h.2.2.1.2.1 q h1 h2), h.2.2.1.2.2⟩, h.2.2.2⟩
  by_cases hqa : q = H.size
  · subst hqa; exact h.2.2.2 _ h.2.2.1.1
  · rw [gup_ne _ _ hqa] at hq
    exact h.2.1 q hq
end
section
section GROWS
variable {p : Program} {l : Launch} {e : Env} {R : Room} {s : State} {m : MethodId} {args : Array Value} {below : List Frame} {meth : Method} {c : Code} {H : Heap} {locs : List Loc} {cells slots : Nat} {Q : State → Prop}
variable {cc : ByteArray} {pc nL : Nat} {ls : Array Slot} {rest : List Value} {D : va_G} {cl : List vw_C} {A : Nat → Prop} {a : Nat} {tys : List (ClassId × FieldType)} {G : gh} {H0 : Heap} {Ts : List Cond} {own : String}
/-- getfield -/
theorem g_get {ref C : String} {T : u_T} {N ci index : Nat} (S : CallFix p m c cc nL s args Ts own) (hK : va_K D cl tys s) (hG : gP D cl G H) {fs : List Value} (he : G a = some (.inr (ci, fs))) (hc : cl[ci]? = some (C, T, N)) (hin : ∀ w ∈ u_ws C T N, w ∈ Ts) (k : Nat) (hk : k < N) (hlink : Cond.fieldLink own index ref (T k).2.1 (T k).2.2.1 ∈ Ts) (hsame : ∀ x, s.fieldFound? (T k).1 (T k).2.1 (T k).2.2.1 = some x → s.fieldFound? ref (T k).2.1 (T k).2.2.1 = some x) {v : Value} (hv : fs[k]? = some v) (hdg : decode cc pc = .ok (.getfield index, 3))
    (kk : W p l e R s m args below meth c H locs cells slots Q (F0 m (pc + 3) ls (v :: rest))) : W p l e R s m args below meth c H locs cells slots Q (F0 m pc ls (.ref a :: rest)) :=
  va_get S.1 S.2.1 S.2.2.2.2 hin S.2.2.2.1 hK (hG.one he) 0 rfl hc k hk (S.2.2.2.2 _ hlink) hsame hv hdg kk
/-- getfield of a nest mate's private field -/
theorem g_getN {ref C host : String} {T : u_T} {N ci index : Nat} (S : CallFix p m c cc nL s args Ts own) (hK : va_K D cl tys s) (hG : gP D cl G H) {fs : List Value} (he : G a = some (.inr (ci, fs))) (hc : cl[ci]? = some (C, T, N)) (hin : ∀ w ∈ u_ws C T N, w ∈ Ts) (k : Nat) (hk : k < N) (hlink : va_Nw (.fieldLinkNest own index ref (T k).2.1 (T k).2.2.1 host) s) (hsame : ∀ x, s.fieldFound? (T k).1 (T k).2.1 (T k).2.2.1 = some x → s.fieldFound? ref (T k).2.1 (T k).2.2.1 = some x) {v : Value} (hv : fs[k]? = some v) (hdg : decode cc pc = .ok (.getfield index, 3))
    (kk : W p l e R s m args below meth c H locs cells slots Q (F0 m (pc + 3) ls (v :: rest))) : W p l e R s m args below meth c H locs cells slots Q (F0 m pc ls (.ref a :: rest)) :=
  va_getN S.1 S.2.1 S.2.2.2.2 hin S.2.2.2.1 hK (hG.one he) 0 rfl hc k hk (va_Nw.use rfl hlink) hsame hv hdg kk
/-- arraylength -/
theorem g_alen {cA : ClassId} {x : vp_A} {ty : FieldType} {v : Int32} (S : CallFix p m c cc nL s args Ts own) (hK : va_K D cl tys s) (hG : gP D cl G H) (he : G a = some (.inl (cA, x))) (t0 : Nat) (ht : tys[t0]? = some (cA, ty)) (hv : Int32.ofNat x.1 = v) (hdg : decode cc pc = .ok (.arraylength, 1))
    (kk : W p l e R s m args below meth c H locs cells slots Q (F0 m (pc + 1) ls (.int v :: rest))) : W p l e R s m args below meth c H locs cells slots Q (F0 m pc ls (.ref a :: rest)) :=
  va_alen S.1 S.2.1 hK (hG.one he) 0 t0 rfl ht hv hdg kk
theorem g_lald {cA : ClassId} {n : Nat} {f : Nat → Int64} {i : Int32} (S : CallFix p m c cc nL s args Ts own) (hK : va_K D cl tys s) (hG : gP D cl G H) (he : G a = some (.inl (cA, n, .inr (.inl f)))) (t0 : Nat) (ht : tys[t0]? = some (cA, .long)) (hin : vp_in i n) (hdg : decode cc pc = .ok (.laload, 1))
    (kk : W p l e R s m args below meth c H locs cells slots Q (F0 m (pc + 1) ls (.long (f i.toNatClampNeg) :: rest))) : W p l e R s m args below meth c H locs cells slots Q (F0 m pc ls (.int i :: .ref a :: rest)) :=
  va_lald S.1 S.2.1 hK (hG.one he) 0 t0 rfl ht hin hdg kk
theorem g_iald {cA : ClassId} {n : Nat} {f : Nat → Int32} {i : Int32} (S : CallFix p m c cc nL s args Ts own) (hK : va_K D cl tys s) (hG : gP D cl G H) (he : G a = some (.inl (cA, n, .inl f))) (t0 : Nat) (ht : tys[t0]? = some (cA, .int)) (hin : vp_in i n) (hdg : decode cc pc = .ok (.iaload, 1))
    (kk : W p l e R s m args below meth c H locs cells slots Q (F0 m (pc + 1) ls (.int (f i.toNatClampNeg) :: rest))) : W p l e R s m args below meth c H locs cells slots Q (F0 m pc ls (.int i :: .ref a :: rest)) :=
  va_iald S.1 S.2.1 hK (hG.one he) 0 t0 rfl ht hin hdg kk
theorem g_zald {cA : ClassId} {n : Nat} {f : Nat → Int32} {i : Int32} (S : CallFix p m c cc nL s args Ts own) (hK : va_K D cl tys s) (hG : gP D cl G H) (he : G a = some (.inl (cA, n, .inl f))) (t0 : Nat) (ht : tys[t0]? = some (cA, .boolean)) (hin : vp_in i n) (hdg : decode cc pc = .ok (.baload, 1))
    (kk : W p l e R s m args below meth c H locs cells slots Q (F0 m (pc + 1) ls (.int (f i.toNatClampNeg) :: rest))) : W p l e R s m args below meth c H locs cells slots Q (F0 m pc ls (.int i :: .ref a :: rest)) :=
  va_zald S.1 S.2.1 hK (hG.one he) 0 t0 rfl ht hin hdg kk
theorem g_aald {cA : ClassId} {C : String} {n : Nat} {f : Nat → Option Nat} {i : Int32} (S : CallFix p m c cc nL s args Ts own) (hK : va_K D cl tys s) (hG : gP D cl G H) (he : G a = some (.inl (cA, n, .inr (.inr (.inr (.inr f)))))) (t0 : Nat) (ht : tys[t0]? = some (cA, .object C)) (hin : vp_in i n) (hdg : decode cc pc = .ok (.aaload, 1))
    (kk : W p l e R s m args below meth c H locs cells slots Q (F0 m (pc + 1) ls (va_rf (f i.toNatClampNeg) :: rest))) : W p l e R s m args below meth c H locs cells slots Q (F0 m pc ls (.int i :: .ref a :: rest)) :=
  va_aldq S.1 S.2.1 hK (hG.one he) 0 t0 rfl ht hin hdg kk
/-- putfield -/
theorem g_put {ref C : String} {T : u_T} {N ci index : Nat} (S : CallFix p m c cc nL s args Ts own) (hK : va_K D cl tys s) (hG : gS A H0 D cl G H locs) {fs : List Value} (he : G a = some (.inr (ci, fs))) (hc : cl[ci]? = some (C, T, N)) (hin : ∀ w ∈ u_ws C T N, w ∈ Ts) (ty0 : Nat → FieldType) (hty : ∀ k, k < N → parseFieldDescriptor (T k).2.2.1 = some (ty0 k)) (hnm : ∀ a, a < N → ∀ b, b < N → a ≠ b → (T a).2.1 ≠ (T b).2.1) (k : Nat) (hk : k < N) (hlink : Cond.fieldLink own index ref (T k).2.1 (T k).2.2.1 ∈ Ts) (hsame : ∀ x, s.fieldFound? (T k).1 (T k).2.1 (T k).2.2.1 = some x → s.fieldFound? ref (T k).2.1 (T k).2.2.1 = some x) (hfin : (T k).2.2.2 = false) {ty : FieldType} {v : Value} (hd : parseFieldDescriptor (T k).2.2.1 = some ty) (hn : narrow ty v = v) (hfit : fits ty v = true) (hl : k < fs.length) (hdg : decode cc pc = .ok (.putfield index, 3))
    (kk : ∀ (H1 : Heap) (locs1 : List Loc), gS A H0 D cl (gup G a (.inr (ci, fs.set k v))) H1 locs1 → W p l e R s m args below meth c H1 locs1 cells slots Q (F0 m (pc + 3) ls rest)) : W p l e R s m args below meth c H locs cells slots Q (F0 m pc ls (v :: .ref a :: rest)) := by
  have hts := S.2.2.2.2
  have hown := S.2.2.2.1
  have hap := va_apart (own := own) hts hin ty0 hty hnm hK hc
  obtain ⟨r, h1, cell, q1, q2, q3, q4⟩ := hG.1 a _ he
  have hr : r = (C, T, N) := Option.some.inj (h1.symm.trans hc)
  subst hr
  obtain ⟨hSl, hfc, kC, hkC, hkind⟩ := hK.1 ci _ hc
  obtain ⟨cf, kf, fi, f, hi, hsl⟩ := hSl k hk
  have hlay := hts _ (hin _ (u_in_lay hk))
  unfold u_lay at hlay
  rw [if_neg (by rw [hfin]; decide)] at hlay
  have hst := (u_facts hfc hkC (u_lays hts hin hk) hi).1
  have h6 := u_store hfc hkC hkind hlay hi hd hn hfit
  refine W.putK S.1 S.2.1 (f := f) ⟨hown, hts _ hlink, ⟨_, _, _, hsame _ hi⟩, hst⟩ (by rw [q2]; exact h6) q1 q3 (by rw [hsl]; exact k2_hasslot (q4 k hk)) rfl rfl hdg fun H' e1 e2 e3 => ?_
  rw [hsl] at e1
  exact kk H' _ (hG.put he ⟨_, hc, t_OB.to (V := updV (vp_V fs) k v) ⟨_, e1, q2, q3, t_set q4 hap hk v⟩ (fun j _ => vp_updV_set hl v j)⟩ e2 e3)
/-- putfield of a final field, in its constructor -/
theorem g_putF {ref C : String} {T : u_T} {N ci index : Nat} (S : CallFix p m c cc nL s args Ts own) (hK : va_K D cl tys s) (hG : gS A H0 D cl G H locs) {fs : List Value} (he : G a = some (.inr (ci, fs))) (hc : cl[ci]? = some (C, T, N)) (hin : ∀ w ∈ u_ws C T N, w ∈ Ts) (ty0 : Nat → FieldType) (hty : ∀ k, k < N → parseFieldDescriptor (T k).2.2.1 = some (ty0 k)) (hnm : ∀ a, a < N → ∀ b, b < N → a ≠ b → (T a).2.1 ≠ (T b).2.1) (k : Nat) (hk : k < N) (hlink : Cond.fieldLink own index ref (T k).2.1 (T k).2.2.1 ∈ Ts) (hsame : ∀ x, s.fieldFound? (T k).1 (T k).2.1 (T k).2.2.1 = some x → s.fieldFound? ref (T k).2.1 (T k).2.2.1 = some x) (hfin : (T k).2.2.2 = true) (hin2 : meth.name = "<init>") (hdecl : (T k).1 = own) {ty : FieldType} {v : Value} (hd : parseFieldDescriptor (T k).2.2.1 = some ty) (hn : narrow ty v = v) (hfit : fits ty v = true) (hl : k < fs.length) (hdg : decode cc pc = .ok (.putfield index, 3))
    (kk : ∀ (H1 : Heap) (locs1 : List Loc), gS A H0 D cl (gup G a (.inr (ci, fs.set k v))) H1 locs1 → W p l e R s m args below meth c H1 locs1 cells slots Q (F0 m (pc + 3) ls rest)) : W p l e R s m args below meth c H locs cells slots Q (F0 m pc ls (v :: .ref a :: rest)) := by
  have hts := S.2.2.2.2
  have hown := S.2.2.2.1
  have hap := va_apart (own := own) hts hin ty0 hty hnm hK hc
  obtain ⟨r, h1, cell, q1, q2, q3, q4⟩ := hG.1 a _ he
  have hr : r = (C, T, N) := Option.some.inj (h1.symm.trans hc)
  subst hr
  obtain ⟨hSl, hfc, kC, hkC, hkind⟩ := hK.1 ci _ hc
  obtain ⟨cf, kf, fi, f, hi, hsl⟩ := hSl k hk
  have hlay := hts _ (hin _ (u_in_lay hk))
  unfold u_lay at hlay
  rw [if_pos hfin] at hlay
  have hst := (u_facts hfc hkC (u_lays hts hin hk) hi).1
  have hcf : m.cls = cf := by
    obtain ⟨_, _, c', _, _, _, -, -, hf', -, -, -, hown2, -⟩ := Cond.laysFinal_spec hlay
    have e1 : c' = cf := by have := hi.symm.trans hf'; simp at this; exact this.1.symm
    rw [hdecl] at hown2
    rw [← e1]; exact Option.some.inj (hown.symm.trans hown2)
  have h6 := u_fits hfc hkC hkind (Or.inr hlay) hi hd hn hfit
  refine W.putFinK S.1 S.2.1 hown (hts _ hlink) (hsame _ hi) hst hcf hin2 (by rw [q2]; exact h6) q1 q3 (by rw [hsl]; exact k2_hasslot (q4 k hk)) rfl rfl hdg fun H' e1 e2 e3 => ?_
  rw [hsl] at e1
  exact kk H' _ (hG.put he ⟨_, hc, t_OB.to (V := updV (vp_V fs) k v) ⟨_, e1, q2, q3, t_set q4 hap hk v⟩ (fun j _ => vp_updV_set hl v j)⟩ e2 e3)
/-- lastore -/
theorem g_last {cA : ClassId} {n : Nat} {f : Nat → Int64} {i : Int32} {x : Int64} (S : CallFix p m c cc nL s args Ts own) (hK : va_K D cl tys s) (hG : gS A H0 D cl G H locs) (he : G a = some (.inl (cA, n, .inr (.inl f)))) (t0 : Nat) (ht : tys[t0]? = some (cA, .long)) (hin : vp_in i n) (hdg : decode cc pc = .ok (.lastore, 1))
    (kk : ∀ (H1 : Heap) (locs1 : List Loc), gS A H0 D cl (gup G a (.inl (cA, n, .inr (.inl (vp_updL f i.toNatClampNeg x))))) H1 locs1 → W p l e R s m args below meth c H1 locs1 cells slots Q (F0 m (pc + 1) ls rest)) : W p l e R s m args below meth c H locs cells slots Q (F0 m pc ls (.long x :: .int i :: .ref a :: rest)) := by
  refine W.last S.1 S.2.1 (hG.1 a _ he) ((hK.2 t0 _ ht).1 n (fun j => .long (f j))) (fun q => by cases q) (by show ¬ (i < 0 ∨ (arrV _ _ _).slots.size ≤ _); rw [arrV_size]; exact hin) rfl rfl hdg fun H1 e1 z oq => ?_
  refine kk H1 _ (hG.put he ?_ z oq)
  show H1[a]? = some (vp_cell _ _)
  rw [e1]
  rw [vp_cell_l, vp_cell_l, arrV_store]
  congr 2
  funext q
  by_cases hq : q = i.toNatClampNeg
  · subst hq
    simp [updV, vp_updL]
  · simp [updV, vp_updL, hq]
/-- iastore -/
theorem g_iast {cA : ClassId} {n : Nat} {f : Nat → Int32} {i x : Int32} (S : CallFix p m c cc nL s args Ts own) (hK : va_K D cl tys s) (hG : gS A H0 D cl G H locs) (he : G a = some (.inl (cA, n, .inl f))) (t0 : Nat) (ht : tys[t0]? = some (cA, .int)) (hin : vp_in i n) (hdg : decode cc pc = .ok (.iastore, 1))
    (kk : ∀ (H1 : Heap) (locs1 : List Loc), gS A H0 D cl (gup G a (.inl (cA, n, .inl (upd f i.toNatClampNeg x)))) H1 locs1 → W p l e R s m args below meth c H1 locs1 cells slots Q (F0 m (pc + 1) ls rest)) : W p l e R s m args below meth c H locs cells slots Q (F0 m pc ls (.int x :: .int i :: .ref a :: rest)) := by
  refine W.iast S.1 S.2.1 (hG.1 a _ he) ((hK.2 t0 _ ht).1 n (fun j => .int (f j))) (fun q => by cases q) (by show ¬ (i < 0 ∨ (arrV _ _ _).slots.size ≤ _); rw [arrV_size]; exact hin) rfl rfl hdg fun H1 e1 z oq => ?_
  refine kk H1 _ (hG.put he ?_ z oq)
  show H1[a]? = some (vp_cell _ _)
  rw [e1]
  rw [vp_cell_i, vp_cell_i, arrV_store]
  congr 2
  funext q
  by_cases hq : q = i.toNatClampNeg
  · subst hq
    simp [updV, upd]
  · simp [updV, upd, hq]
/-- bastore into booleans -/
theorem g_zast {cA : ClassId} {n : Nat} {f : Nat → Int32} {i x : Int32} (S : CallFix p m c cc nL s args Ts own) (hK : va_K D cl tys s) (hG : gS A H0 D cl G H locs) (he : G a = some (.inl (cA, n, .inl f))) (t0 : Nat) (ht : tys[t0]? = some (cA, .boolean)) (hin : vp_in i n) (hdg : decode cc pc = .ok (.bastore, 1))
    (kk : ∀ (H1 : Heap) (locs1 : List Loc), gS A H0 D cl (gup G a (.inl (cA, n, .inl (upd f i.toNatClampNeg (vp_nar .boolean x))))) H1 locs1 → W p l e R s m args below meth c H1 locs1 cells slots Q (F0 m (pc + 1) ls rest)) : W p l e R s m args below meth c H locs cells slots Q (F0 m pc ls (.int x :: .int i :: .ref a :: rest)) := by
  refine W.zast S.1 S.2.1 (hG.1 a _ he) ((hK.2 t0 _ ht).1 n (fun j => .int (f j))) (fun q => by cases q) (by show ¬ (i < 0 ∨ (arrV _ _ _).slots.size ≤ _); rw [arrV_size]; exact hin) rfl rfl hdg fun H1 e1 z oq => ?_
  refine kk H1 _ (hG.put he ?_ z oq)
  show H1[a]? = some (vp_cell _ _)
  rw [e1]
  rw [vp_cell_i, vp_cell_i, arrV_store]
  congr 2
  funext q
  by_cases hq : q = i.toNatClampNeg
  · subst hq
    simp [updV, upd, vp_nar]
    try rfl
  · simp [updV, upd, hq]
/-- new -/
theorem g_new {C : String} {T : u_T} {N ci index : Nat} (S : CallFix p m c cc nL s args Ts own) (hK : va_K D cl tys s) (hG : gS A H0 D cl G H locs) (hc : cl[ci]? = some (C, T, N)) (hin : ∀ w ∈ u_ws C T N, w ∈ Ts) (ty : Nat → FieldType) (hty : ∀ k, k < N → parseFieldDescriptor (T k).2.2.1 = some (ty k)) (hcl : Cond.classLink own index C ∈ Ts) (hinst : Cond.instantiable C N ∈ Ts) (hini : Cond.initialized C ∈ Ts) {fs : List Value} (hfs : ∀ j, j < N → defaultValue (ty j) = vp_V fs j) (hcells : cells + 1 ≤ R.cells) (hslots : slots + N ≤ R.slots) (hdg : decode cc pc = .ok (.new index, 3))
    (kk : ∀ (q : Nat) (H1 : Heap), q = H.size → G q = none → gS A H0 D cl (gup G q (.inr (ci, fs))) H1 locs → W p l e R s m args below meth c H1 locs (cells + 1) (slots + N) Q (F0 m (pc + 3) ls (.ref q :: rest))) : W p l e R s m args below meth c H locs cells slots Q (F0 m pc ls rest) := by
  have hts := S.2.2.2.2
  have hKn := hK.1 ci _ hc
  refine W.newcK S.1 S.2.1 S.2.2.2.1 (hts _ hcl) (hts _ hinst) (hts _ hini) rfl hdg hcells hslots hKn.2.1 rfl fun H1 kC hkC e1 z1 o1 => ?_
  exact kk H.size H1 rfl (hG.1.fresh (Nat.le_refl _)) (hG.push ⟨_, hc, (u_born ty hts hin hKn hkC e1 hty).to hfs⟩ (by omega) o1)
/-- pure calls -/
theorem g_calli {post : Int32 → Prop} {aa : Array Value} {st0 : List Value} (hr : va_Run p l e R s m args below meth c H locs cells slots 0 0 (F0 m pc ls st0) rest (vp_Si post aa) (fun _ => False))
    (kk : ∀ r : Int32, post r → W p l e R s m args below meth c H locs cells slots Q (F0 m (pc + 3) ls (.int r :: rest))) : W p l e R s m args below meth c H locs cells slots Q (F0 m pc ls st0) := vp_callSi hr.run kk
end GROWS
end
section
/-! What is fixed for good: the classes' numbers and slots, the array classes' numbers; calls in these words. -/
abbrev gZ : Type := va_G × (Nat → ClassId)
abbrev gT (Z : gZ) : List (ClassId × FieldType) := [(Z.2 0, .long), (Z.2 1, .int), (Z.2 2, .boolean), (Z.2 3, .object "PackSeeds$Pattern")]
def gE (Z : gZ) (U : State) : Prop := va_K Z.1 cls (gT Z) U ∧ gNest U
theorem gE.warm {Z : gZ} {s U : State} (hW : s.WarmedH U.vm) (h : gE Z s) : gE Z U := ⟨va_K.moved hW.alike h.1, h.2.warm hW⟩
theorem gE.same {Z : gZ} {s U : State} (hv : s.vm = U.vm) (h : gE Z s) : gE Z U := ⟨va_K.moved (by rw [hv]; exact Vm.Alike.refl _) h.1, h.2.same hv⟩
def gPure (Z : gZ) (G : gh) : State → Prop := fun U => gP Z.1 cls G U.heap ∧ gE Z U
theorem gPure.blind {Z : gZ} {G : gh} {av : List Value} : FrameBlind (va_Pc av (gPure Z G)) := fun a U g mk q => ⟨q.1, q.2.1, gE.same (s := U) (U := U.calling g mk a) rfl q.2.2⟩
theorem gPreS {Z : gZ} {G : gh} {H : Heap} {s : State} {As : List Value} (hG : gP Z.1 cls G H) (hE : gE Z s) : PreS s H (va_Pc As (gPure Z G)) As :=
  ⟨gPure.blind, fun U hU hW => ⟨rfl, by rw [hU]; exact hG, hE.warm hW⟩⟩
theorem gPreV {Z : gZ} {G : gh} {H : Heap} {s : State} {C : String} {T : u_T} {N ci b : Nat} {fs As : List Value} (hG : gP Z.1 cls G H) (hE : gE Z s) (he : G b = some (.inr (ci, fs))) (hc : cls[ci]? = some (C, T, N)) : PreV s H C b (va_Pc (.ref b :: As) (gPure Z G)) As :=
  ⟨gPure.blind, va_recv hE.1 (hG.one he) (q0 := 0) hc rfl, fun U hU hW => ⟨rfl, by rw [hU]; exact hG, hE.warm hW⟩⟩
abbrev gNm (y : MethodName) (n : Nat) : Prop := y.cls ≠ "java/lang/invoke/MethodHandle" ∧ y.cls ≠ "java/lang/invoke/VarHandle" ∧ (parseMethodDescriptor y.desc).map (fun d => d.parameters.length) = some n
/-- an invokevirtual's words -/
abbrev gLV (own : String) (index : Nat) (y : MethodName) (n : Nat) : Prop := Cond.methodLink own index y ∈ Gall ∧ Cond.instanceMethod y ∈ Gall ∧ Cond.selects y.cls y y ∈ Gall ∧ Cond.initialized y.cls ∈ Gall ∧ gNm y n
/-- the same, of a nest mate's private method -/
abbrev gLVN (own : String) (index : Nat) (y : MethodName) (n : Nat) : Prop := Cond.methodLinkNest own index y "PackSeeds" ∈ gNw ∧ Cond.instanceMethod y ∈ Gall ∧ Cond.selects y.cls y y ∈ Gall ∧ Cond.initialized y.cls ∈ Gall ∧ gNm y n
/-- an invokestatic's words -/
abbrev gLS (own : String) (index : Nat) (y : MethodName) (n : Nat) : Prop := Cond.methodLink own index y ∈ Gall ∧ Cond.static y ∈ Gall ∧ Cond.initialized y.cls ∈ Gall ∧ gNm y n
abbrev gLSN (own : String) (index : Nat) (y : MethodName) (n : Nat) : Prop := Cond.methodLinkNest own index y "PackSeeds" ∈ gNw ∧ Cond.static y ∈ Gall ∧ Cond.initialized y.cls ∈ Gall ∧ gNm y n
/-- an invokespecial's words, of a constructor -/
abbrev gLI (own : String) (index : Nat) (y : MethodName) (n : Nat) : Prop := Cond.methodLink own index y ∈ Gall ∧ Cond.instanceMethod y ∈ Gall ∧ Cond.initialized y.cls ∈ Gall ∧ y.name = "<init>" ∧ gNm y n
abbrev gLIN (own : String) (index : Nat) (y : MethodName) (n : Nat) : Prop := Cond.methodLinkNest own index y "PackSeeds" ∈ gNw ∧ Cond.instanceMethod y ∈ Gall ∧ Cond.initialized y.cls ∈ Gall ∧ y.name = "<init>" ∧ gNm y n
theorem gg1 {w0 : Cond} (h : w0 ∈ Gall) : GoodIn Gall (w0 :: Gall) := fun w hw => by
  rcases List.mem_cons.mp hw with rfl | hw
  · exact ⟨h, good_of_word (Gall_good _ h)⟩
  · exact ⟨hw, good_of_word (Gall_good _ hw)⟩
section GRUN
variable {p : Program} {l : Launch} {e : Env} {R : Room} {s : State} {m : MethodId} {args : Array Value} {below : List Frame} {meth : Method} {c : Code} {H : Heap} {locs : List Loc} {cells slots : Nat} {Q : State → Prop}
variable {cc bytes : ByteArray} {pc nL maxL mc ms n index b : Nat} {ret : Option FieldType} {ls : Array Slot} {st0 rest As : List Value} {own : String} {y : MethodName} {rm : Room} {Pc : Array Value → State → Prop} {Qc : Array Value → State → Outcome → State → Prop} {free : Addr → Prop} {Z : gZ}
theorem g_callB (S : CallFix p m c cc nL s args Gall own) (k0 : Cond.code y bytes maxL ret ∈ Gall) (hl : Cond.methodLink own index y ∈ Gall) (hi : Cond.initialized y.cls ∈ Gall) (hd : gNm y n) (hrm : rm.cells = mc ∧ rm.slots = ms) (hR : rm.frames + 1 ≤ R.frames ∧ 8 + (maxL + 11) + rm.locals ≤ R.locals) :
    CallB R s args own index y bytes maxL ret (Cond.code y bytes maxL ret :: Gall) rm mc ms n :=
  callB_of n S.2.2.2.2 (gg1 k0) rfl hrm.1 hrm.2 (S.2.2.2.2 _ hi) (S.2.2.2.2 _ hl) hd hR
theorem g_callN (S : CallFix p m c cc nL s args Gall own) (hE : gE Z s) (k0 : Cond.code y bytes maxL ret ∈ Gall) (hl : Cond.methodLinkNest own index y "PackSeeds" ∈ gNw) (hi : Cond.initialized y.cls ∈ Gall) (hd : gNm y n) (hrm : rm.cells = mc ∧ rm.slots = ms) (hR : rm.frames + 1 ≤ R.frames ∧ 8 + (maxL + 11) + rm.locals ≤ R.locals) :
    va_CN R s args own index y "PackSeeds" bytes maxL ret (Cond.code y bytes maxL ret :: Gall) rm mc ms n :=
  va_cnB n S.2.2.2.2 (gg1 k0) rfl hrm.1 hrm.2 (hE.2 _ hl) (S.2.2.2.2 _ hi) hd hR
theorem g_runV (S : CallFix p m c cc nL s args Gall own) (L : gLV own index y n) (k0 : Cond.code y bytes maxL ret ∈ Gall) (hM : Met l y (Cond.code y bytes maxL ret :: Gall) rm Pc Qc mc ms free) (hrm : rm.cells = mc ∧ rm.slots = ms) (hR : rm.frames + 1 ≤ R.frames ∧ 8 + (maxL + 11) + rm.locals ≤ R.locals) (hp : PreV s H y.cls b Pc As) (hn : As.length = n) (hsize : ls.size = nL) (hst : st0 = As.reverse ++ .ref b :: rest) (hW : (rest.map fun v => v.category).sum ≤ 8) (hdg : decode cc pc = .ok (.invokevirtual index, 3)) (hf : cells + mc ≤ R.cells ∧ slots + ms ≤ R.slots) :
    va_Run p l e R s m args below meth c H locs cells slots mc ms (F0 m pc ls st0) rest (Qc (Value.ref b :: As).toArray) free :=
  va_runV (g := F0 m pc ls st0) S hM ⟨g_callB S k0 L.1 L.2.2.2.1 L.2.2.2.2 hrm hR, S.2.2.2.2 _ L.2.1, S.2.2.2.2 _ L.2.2.1⟩ hp rfl hn hsize hst (lv_room hW) hdg hf
theorem g_runVN (S : CallFix p m c cc nL s args Gall own) (hE : gE Z s) (L : gLVN own index y n) (k0 : Cond.code y bytes maxL ret ∈ Gall) (hM : Met l y (Cond.code y bytes maxL ret :: Gall) rm Pc Qc mc ms free) (hrm : rm.cells = mc ∧ rm.slots = ms) (hR : rm.frames + 1 ≤ R.frames ∧ 8 + (maxL + 11) + rm.locals ≤ R.locals) (hp : PreV s H y.cls b Pc As) (hn : As.length = n) (hsize : ls.size = nL) (hst : st0 = As.reverse ++ .ref b :: rest) (hW : (rest.map fun v => v.category).sum ≤ 8) (hdg : decode cc pc = .ok (.invokevirtual index, 3)) (hf : cells + mc ≤ R.cells ∧ slots + ms ≤ R.slots) :
    va_Run p l e R s m args below meth c H locs cells slots mc ms (F0 m pc ls st0) rest (Qc (Value.ref b :: As).toArray) free :=
  va_runVN (g := F0 m pc ls st0) S hM ⟨g_callN S hE k0 L.1 L.2.2.2.1 L.2.2.2.2 hrm hR, S.2.2.2.2 _ L.2.1, S.2.2.2.2 _ L.2.2.1⟩ hp rfl hn hsize hst (lv_room hW) hdg hf
theorem g_runS (S : CallFix p m c cc nL s args Gall own) (L : gLS own index y n) (k0 : Cond.code y bytes maxL ret ∈ Gall) (hM : Met l y (Cond.code y bytes maxL ret :: Gall) rm Pc Qc mc ms free) (hrm : rm.cells = mc ∧ rm.slots = ms) (hR : rm.frames + 1 ≤ R.frames ∧ 8 + (maxL + 11) + rm.locals ≤ R.locals) (hp : PreS s H Pc As) (hn : As.length = n) (hsize : ls.size = nL) (hst : st0 = As.reverse ++ rest) (hW : (rest.map fun v => v.category).sum ≤ 8) (hdg : decode cc pc = .ok (.invokestatic index, 3)) (hf : cells + mc ≤ R.cells ∧ slots + ms ≤ R.slots) :
    va_Run p l e R s m args below meth c H locs cells slots mc ms (F0 m pc ls st0) rest (Qc As.toArray) free :=
  va_runS (g := F0 m pc ls st0) S hM ⟨g_callB S k0 L.1 L.2.2.1 L.2.2.2 hrm hR, S.2.2.2.2 _ L.2.1⟩ hp rfl hn hsize hst (lv_room hW) hdg hf
theorem g_runSN (S : CallFix p m c cc nL s args Gall own) (hE : gE Z s) (L : gLSN own index y n) (k0 : Cond.code y bytes maxL ret ∈ Gall) (hM : Met l y (Cond.code y bytes maxL ret :: Gall) rm Pc Qc mc ms free) (hrm : rm.cells = mc ∧ rm.slots = ms) (hR : rm.frames + 1 ≤ R.frames ∧ 8 + (maxL + 11) + rm.locals ≤ R.locals) (hp : PreS s H Pc As) (hn : As.length = n) (hsize : ls.size = nL) (hst : st0 = As.reverse ++ rest) (hW : (rest.map fun v => v.category).sum ≤ 8) (hdg : decode cc pc = .ok (.invokestatic index, 3)) (hf : cells + mc ≤ R.cells ∧ slots + ms ≤ R.slots) :
    va_Run p l e R s m args below meth c H locs cells slots mc ms (F0 m pc ls st0) rest (Qc As.toArray) free :=
  va_runSN (g := F0 m pc ls st0) S hM ⟨g_callN S hE k0 L.1 L.2.2.1 L.2.2.2 hrm hR, S.2.2.2.2 _ L.2.1, trivial⟩ hp rfl hn hsize hst (lv_room hW) hdg hf
theorem g_runI (S : CallFix p m c cc nL s args Gall own) (L : gLI own index y n) (k0 : Cond.code y bytes maxL none ∈ Gall) (hM : Met l y (Cond.code y bytes maxL none :: Gall) rm Pc Qc mc ms free) (hrm : rm.cells = mc ∧ rm.slots = ms) (hR : rm.frames + 1 ≤ R.frames ∧ 8 + (maxL + 11) + rm.locals ≤ R.locals) (hp : PreS s H Pc (.ref b :: As)) (hn : As.length = n) (hsize : ls.size = nL) (hst : st0 = As.reverse ++ .ref b :: rest) (hW : (rest.map fun v => v.category).sum ≤ 8) (hdg : decode cc pc = .ok (.invokespecial index, 3)) (hf : cells + mc ≤ R.cells ∧ slots + ms ≤ R.slots) :
    va_Run p l e R s m args below meth c H locs cells slots mc ms (F0 m pc ls st0) rest (Qc (Value.ref b :: As).toArray) free :=
  va_runI (g := F0 m pc ls st0) S hM ⟨g_callB S k0 L.1 L.2.2.1 L.2.2.2.2 hrm hR, L.2.2.2.1, S.2.2.2.2 _ L.2.1⟩ hp rfl hn hsize hst (lv_room hW) hdg hf
theorem g_runIN (S : CallFix p m c cc nL s args Gall own) (hE : gE Z s) (L : gLIN own index y n) (k0 : Cond.code y bytes maxL none ∈ Gall) (hM : Met l y (Cond.code y bytes maxL none :: Gall) rm Pc Qc mc ms free) (hrm : rm.cells = mc ∧ rm.slots = ms) (hR : rm.frames + 1 ≤ R.frames ∧ 8 + (maxL + 11) + rm.locals ≤ R.locals) (hp : PreS s H Pc (.ref b :: As)) (hn : As.length = n) (hsize : ls.size = nL) (hst : st0 = As.reverse ++ .ref b :: rest) (hW : (rest.map fun v => v.category).sum ≤ 8) (hdg : decode cc pc = .ok (.invokespecial index, 3)) (hf : cells + mc ≤ R.cells ∧ slots + ms ≤ R.slots) :
    va_Run p l e R s m args below meth c H locs cells slots mc ms (F0 m pc ls st0) rest (Qc (Value.ref b :: As).toArray) free :=
  va_runIN (g := F0 m pc ls st0) S hM ⟨g_callN S hE k0 L.1 L.2.2.1 L.2.2.2.2 hrm hR, L.2.2.2.1, S.2.2.2.2 _ L.2.1⟩ hp rfl hn hsize hst (lv_room hW) hdg hf
/-- a pure call's answer -/
theorem g_retl {post : Int64 → Prop} {aa : Array Value} (hr : va_Run p l e R s m args below meth c H locs cells slots 0 0 (F0 m pc ls st0) rest (vp_Sl post aa) (fun _ => False))
    (kk : ∀ r : Int64, post r → W p l e R s m args below meth c H locs cells slots Q (F0 m (pc + 3) ls (.long r :: rest))) : W p l e R s m args below meth c H locs cells slots Q (F0 m pc ls st0) := vp_callSl hr.run kk
theorem g_reti {post : Int32 → Prop} {aa : Array Value} (hr : va_Run p l e R s m args below meth c H locs cells slots 0 0 (F0 m pc ls st0) rest (vp_Si post aa) (fun _ => False))
    (kk : ∀ r : Int32, post r → W p l e R s m args below meth c H locs cells slots Q (F0 m (pc + 3) ls (.int r :: rest))) : W p l e R s m args below meth c H locs cells slots Q (F0 m pc ls st0) := vp_callSi hr.run kk
theorem g_retq {post : Option Nat → Prop} {aa : Array Value} (hr : va_Run p l e R s m args below meth c H locs cells slots 0 0 (F0 m pc ls st0) rest (va_Sq post aa) (fun _ => False))
    (kk : ∀ r : Option Nat, post r → W p l e R s m args below meth c H locs cells slots Q (F0 m (pc + 3) ls (va_rf r :: rest))) : W p l e R s m args below meth c H locs cells slots Q (F0 m pc ls st0) := va_csq hr.run kk
end GRUN
end
section
theorem lk_ps_9 : gLIN "PackSeeds" 9 y_sh_init 2 := ⟨nw_0, tw_25, tw_2, rfl, ⟨by decide +kernel, by decide +kernel, by decide +kernel⟩⟩
theorem lk_ps_20 : gLIN "PackSeeds" 20 y_ma_init 1 := ⟨nw_5, tw_48, tw_4, rfl, ⟨by decide +kernel, by decide +kernel, by decide +kernel⟩⟩
theorem lk_ps_47 : gLIN "PackSeeds" 47 y_pt_init 0 := ⟨nw_17, tw_215, tw_10, rfl, ⟨by decide +kernel, by decide +kernel, by decide +kernel⟩⟩
theorem lk_ps_48 : gLV "PackSeeds" 48 y_ps_present 1 := ⟨tw_252, tw_254, ts_9, tw_1, ⟨by decide +kernel, by decide +kernel, by decide +kernel⟩⟩
theorem lk_ps_52 : gLV "PackSeeds" 52 y_ps_existingPlace 2 := ⟨tw_272, tw_274, ts_10, tw_1, ⟨by decide +kernel, by decide +kernel, by decide +kernel⟩⟩
theorem lk_ps_61 : gLVN "PackSeeds" 61 y_pt_setCare 2 := ⟨nw_26, tw_298, ts_11, tw_10, ⟨by decide +kernel, by decide +kernel, by decide +kernel⟩⟩
theorem lk_ps_65 : gLV "PackSeeds" 65 y_ps_presentOrNull 1 := ⟨tw_88, tw_90, ts_0, tw_1, ⟨by decide +kernel, by decide +kernel, by decide +kernel⟩⟩
theorem lk_ps_68 : gLV "PackSeeds" 68 y_ps_takeFromBehind 2 := ⟨tw_92, tw_94, ts_1, tw_1, ⟨by decide +kernel, by decide +kernel, by decide +kernel⟩⟩
theorem lk_ps_72 : gLV "PackSeeds" 72 y_ps_countPresent 0 := ⟨tw_105, tw_107, ts_4, tw_1, ⟨by decide +kernel, by decide +kernel, by decide +kernel⟩⟩
theorem lk_ps_78 : gLVN "PackSeeds" 78 y_ma_restart 1 := ⟨nw_27, tw_314, ts_13, tw_4, ⟨by decide +kernel, by decide +kernel, by decide +kernel⟩⟩
theorem lk_ps_82 : gLV "PackSeeds" 82 y_ps_forgetSeeds 0 := ⟨tw_316, tw_318, ts_14, tw_1, ⟨by decide +kernel, by decide +kernel, by decide +kernel⟩⟩
theorem lk_ps_95 : gLVN "PackSeeds" 95 y_ma_isTapped 1 := ⟨nw_28, tw_331, ts_15, tw_4, ⟨by decide +kernel, by decide +kernel, by decide +kernel⟩⟩
theorem lk_ps_99 : gLVN "PackSeeds" 99 y_ma_turnTap 1 := ⟨nw_29, tw_335, ts_16, tw_4, ⟨by decide +kernel, by decide +kernel, by decide +kernel⟩⟩
theorem lk_ps_108 : gLVN "PackSeeds" 108 y_ma_leastSeed 2 := ⟨nw_30, tw_346, ts_17, tw_4, ⟨by decide +kernel, by decide +kernel, by decide +kernel⟩⟩
theorem lk_ps_114 : gLV "PackSeeds" 114 y_ps_bitsOf 1 := ⟨tw_385, tw_387, ts_22, tw_1, ⟨by decide +kernel, by decide +kernel, by decide +kernel⟩⟩
theorem lk_ps_118 : gLS "PackSeeds" 118 y_ps_existingFault 1 := ⟨tw_406, tw_407, tw_1, ⟨by decide +kernel, by decide +kernel, by decide +kernel⟩⟩
theorem lk_ps_125 : gLV "PackSeeds" 125 y_ps_faultsOfAllBut 1 := ⟨tw_113, tw_115, ts_5, tw_1, ⟨by decide +kernel, by decide +kernel, by decide +kernel⟩⟩
theorem lk_ps_142 : gLVN "PackSeeds" 142 y_ma_takeIn 2 := ⟨nw_34, tw_435, ts_25, tw_4, ⟨by decide +kernel, by decide +kernel, by decide +kernel⟩⟩
theorem lk_ps_145 : gLVN "PackSeeds" 145 y_ma_hasLongestCycle 0 := ⟨nw_9, tw_123, ts_6, tw_4, ⟨by decide +kernel, by decide +kernel, by decide +kernel⟩⟩
theorem lk_ps_156 : gLS "PackSeeds" 156 y_ps_greatestDivisor 2 := ⟨tw_447, tw_448, tw_1, ⟨by decide +kernel, by decide +kernel, by decide +kernel⟩⟩
theorem lk_ps_168 : gLS "PackSeeds" 168 y_ps_place 2 := ⟨tw_277, tw_278, tw_1, ⟨by decide +kernel, by decide +kernel, by decide +kernel⟩⟩
theorem lk_ps_171 : gLV "PackSeeds" 171 y_ps_countSeeded 0 := ⟨tw_475, tw_477, ts_26, tw_1, ⟨by decide +kernel, by decide +kernel, by decide +kernel⟩⟩
theorem lk_ps_174 : gLV "PackSeeds" 174 y_ps_countCared 0 := ⟨tw_479, tw_481, ts_27, tw_1, ⟨by decide +kernel, by decide +kernel, by decide +kernel⟩⟩
theorem lk_ps_177 : gLS "PackSeeds" 177 y_in_bitCount 1 := ⟨tw_483, tw_130, tw_13, ⟨by decide +kernel, by decide +kernel, by decide +kernel⟩⟩
theorem lk_ps_190 : gLVN "PackSeeds" 190 y_pt_goesWith 1 := ⟨nw_7, tw_98, ts_2, tw_10, ⟨by decide +kernel, by decide +kernel, by decide +kernel⟩⟩
theorem lk_ps_194 : gLVN "PackSeeds" 194 y_pt_take 1 := ⟨nw_8, tw_103, ts_3, tw_10, ⟨by decide +kernel, by decide +kernel, by decide +kernel⟩⟩
theorem lk_ps_198 : gLVN "PackSeeds" 198 y_ma_make 1 := ⟨nw_32, tw_350, ts_18, tw_4, ⟨by decide +kernel, by decide +kernel, by decide +kernel⟩⟩
theorem lk_ps_201 : gLV "PackSeeds" 201 y_ps_filledFromNearest 1 := ⟨tw_390, tw_392, ts_23, tw_1, ⟨by decide +kernel, by decide +kernel, by decide +kernel⟩⟩
theorem lk_ps_204 : gLV "PackSeeds" 204 y_ps_nearestCare 3 := ⟨tw_394, tw_396, ts_24, tw_1, ⟨by decide +kernel, by decide +kernel, by decide +kernel⟩⟩
theorem lk_ps_208 : gLVN "PackSeeds" 208 y_pt_careAt 1 := ⟨nw_33, tw_302, ts_12, tw_10, ⟨by decide +kernel, by decide +kernel, by decide +kernel⟩⟩
theorem lk_mo_48 : gLV "PackSeedsModel" 48 y_mo_is 1 := ⟨tw_545, tw_547, ts_28, tw_5, ⟨by decide +kernel, by decide +kernel, by decide +kernel⟩⟩
theorem lk_mo_52 : gLV "PackSeedsModel" 52 y_mo_isCell 2 := ⟨tw_549, tw_551, ts_29, tw_5, ⟨by decide +kernel, by decide +kernel, by decide +kernel⟩⟩
theorem lk_mo_56 : gLV "PackSeedsModel" 56 y_mo_place 3 := ⟨tw_553, tw_555, ts_30, tw_5, ⟨by decide +kernel, by decide +kernel, by decide +kernel⟩⟩
theorem lk_mo_60 : gLV "PackSeedsModel" 60 y_mo_goTogether 2 := ⟨tw_569, tw_571, ts_31, tw_5, ⟨by decide +kernel, by decide +kernel, by decide +kernel⟩⟩
theorem lk_mo_63 : gLV "PackSeedsModel" 63 y_mo_left 0 := ⟨tw_573, tw_575, ts_32, tw_5, ⟨by decide +kernel, by decide +kernel, by decide +kernel⟩⟩
theorem lk_mo_67 : gLV "PackSeedsModel" 67 y_mo_findersOf 1 := ⟨tw_581, tw_583, ts_33, tw_5, ⟨by decide +kernel, by decide +kernel, by decide +kernel⟩⟩
theorem lk_mo_71 : gLV "PackSeedsModel" 71 y_mo_noSeeds 0 := ⟨tw_593, tw_595, ts_34, tw_5, ⟨by decide +kernel, by decide +kernel, by decide +kernel⟩⟩
theorem lk_mo_74 : gLV "PackSeedsModel" 74 y_mo_step 1 := ⟨tw_609, tw_611, ts_36, tw_5, ⟨by decide +kernel, by decide +kernel, by decide +kernel⟩⟩
theorem lk_mo_77 : gLV "PackSeedsModel" 77 y_mo_makes 2 := ⟨tw_605, tw_607, ts_35, tw_5, ⟨by decide +kernel, by decide +kernel, by decide +kernel⟩⟩
theorem lk_mo_80 : gLV "PackSeedsModel" 80 y_mo_brought 3 := ⟨tw_625, tw_627, ts_38, tw_5, ⟨by decide +kernel, by decide +kernel, by decide +kernel⟩⟩
theorem lk_mo_86 : gLV "PackSeedsModel" 86 y_mo_bitOf 3 := ⟨tw_621, tw_623, ts_37, tw_5, ⟨by decide +kernel, by decide +kernel, by decide +kernel⟩⟩
theorem lk_mo_89 : gLV "PackSeedsModel" 89 y_mo_rank 1 := ⟨tw_649, tw_651, ts_39, tw_5, ⟨by decide +kernel, by decide +kernel, by decide +kernel⟩⟩
theorem lk_ma_26 : gLS "PackSeeds$Machine" 26 y_in_bitCount 1 := ⟨tw_129, tw_130, tw_13, ⟨by decide +kernel, by decide +kernel, by decide +kernel⟩⟩
theorem lk_ma_40 : gLV "PackSeeds$Machine" 40 y_ma_stageAround 1 := ⟨tw_352, tw_354, ts_19, tw_4, ⟨by decide +kernel, by decide +kernel, by decide +kernel⟩⟩
theorem lk_ma_43 : gLSN "PackSeeds$Machine" 43 y_ps_place 2 := ⟨nw_31, tw_278, tw_1, ⟨by decide +kernel, by decide +kernel, by decide +kernel⟩⟩
theorem lk_ma_47 : gLV "PackSeeds$Machine" 47 y_ma_step 1 := ⟨tw_125, tw_127, ts_7, tw_4, ⟨by decide +kernel, by decide +kernel, by decide +kernel⟩⟩
theorem lk_ma_50 : gLV "PackSeeds$Machine" 50 y_ma_make 1 := ⟨tw_348, tw_350, ts_18, tw_4, ⟨by decide +kernel, by decide +kernel, by decide +kernel⟩⟩
theorem lk_ma_53 : gLS "PackSeeds$Machine" 53 y_ma_row 2 := ⟨tw_357, tw_358, tw_4, ⟨by decide +kernel, by decide +kernel, by decide +kernel⟩⟩
theorem lk_ma_57 : gLV "PackSeeds$Machine" 57 y_ma_reduced 1 := ⟨tw_360, tw_362, ts_20, tw_4, ⟨by decide +kernel, by decide +kernel, by decide +kernel⟩⟩
theorem lk_ma_61 : gLV "PackSeeds$Machine" 61 y_ma_keep 1 := ⟨tw_364, tw_366, ts_21, tw_4, ⟨by decide +kernel, by decide +kernel, by decide +kernel⟩⟩
theorem lk_ma_65 : gLS "PackSeeds$Machine" 65 y_ma_cellsOf 1 := ⟨tw_368, tw_369, tw_4, ⟨by decide +kernel, by decide +kernel, by decide +kernel⟩⟩
theorem lk_pt_31 : gLV "PackSeeds$Pattern" 31 y_pt_careAt 1 := ⟨tw_300, tw_302, ts_12, tw_10, ⟨by decide +kernel, by decide +kernel, by decide +kernel⟩⟩
theorem lk_la_7 : gLV "PackSeedsLaw" 7 y_ps_pattern 0 := ⟨tw_142, tw_143, tw_144, tw_1, ⟨by decide +kernel, by decide +kernel, by decide +kernel⟩⟩
theorem lk_la_15 : gLV "PackSeedsLaw" 15 y_ps_care 4 := ⟨tw_248, tw_249, tw_250, tw_1, ⟨by decide +kernel, by decide +kernel, by decide +kernel⟩⟩
theorem lk_la_23 : gLV "PackSeedsLaw" 23 y_ps_degree 1 := ⟨tw_307, tw_308, tw_309, tw_1, ⟨by decide +kernel, by decide +kernel, by decide +kernel⟩⟩
theorem lk_la_27 : gLV "PackSeedsLaw" 27 y_ps_machine 2 := ⟨tw_323, tw_324, tw_325, tw_1, ⟨by decide +kernel, by decide +kernel, by decide +kernel⟩⟩
theorem lk_la_31 : gLV "PackSeedsLaw" 31 y_ps_seed 1 := ⟨tw_340, tw_341, tw_342, tw_1, ⟨by decide +kernel, by decide +kernel, by decide +kernel⟩⟩
theorem lk_la_35 : gLV "PackSeedsLaw" 35 y_ps_seedOf 1 := ⟨tw_374, tw_375, tw_376, tw_1, ⟨by decide +kernel, by decide +kernel, by decide +kernel⟩⟩
theorem lk_la_38 : gLV "PackSeedsLaw" 38 y_ps_bit 3 := ⟨tw_381, tw_382, tw_383, tw_1, ⟨by decide +kernel, by decide +kernel, by decide +kernel⟩⟩
theorem lk_la_42 : gLV "PackSeedsLaw" 42 y_ps_found 2 := ⟨tw_402, tw_403, tw_404, tw_1, ⟨by decide +kernel, by decide +kernel, by decide +kernel⟩⟩
theorem lk_la_46 : gLV "PackSeedsLaw" 46 y_ps_finders 1 := ⟨tw_413, tw_414, tw_415, tw_1, ⟨by decide +kernel, by decide +kernel, by decide +kernel⟩⟩
theorem lk_la_49 : gLV "PackSeedsLaw" 49 y_ps_mask 3 := ⟨tw_420, tw_421, tw_422, tw_1, ⟨by decide +kernel, by decide +kernel, by decide +kernel⟩⟩
theorem lk_la_53 : gLV "PackSeedsLaw" 53 y_ps_signature 2 := ⟨tw_427, tw_428, tw_429, tw_1, ⟨by decide +kernel, by decide +kernel, by decide +kernel⟩⟩
theorem lk_la_57 : gLV "PackSeedsLaw" 57 y_ps_alias 2 := ⟨tw_440, tw_441, tw_442, tw_1, ⟨by decide +kernel, by decide +kernel, by decide +kernel⟩⟩
theorem lk_la_60 : gLV "PackSeedsLaw" 60 y_ps_fill 1 := ⟨tw_456, tw_457, tw_458, tw_1, ⟨by decide +kernel, by decide +kernel, by decide +kernel⟩⟩
theorem lk_la_64 : gLV "PackSeedsLaw" 64 y_ps_shifts 1 := ⟨tw_464, tw_465, tw_466, tw_1, ⟨by decide +kernel, by decide +kernel, by decide +kernel⟩⟩
theorem lk_la_68 : gLV "PackSeedsLaw" 68 y_ps_count 1 := ⟨tw_471, tw_472, tw_473, tw_1, ⟨by decide +kernel, by decide +kernel, by decide +kernel⟩⟩
theorem lk_la_71 : gLS "PackSeedsLaw" 71 y_la_cell 2 := ⟨tw_135, tw_136, tw_0, ⟨by decide +kernel, by decide +kernel, by decide +kernel⟩⟩
theorem lk_la_77 : gLI "PackSeedsLaw" 77 y_ps_init 2 := ⟨tw_16, tw_17, tw_1, rfl, ⟨by decide +kernel, by decide +kernel, by decide +kernel⟩⟩
theorem lk_la_82 : gLI "PackSeedsLaw" 82 y_mo_init 2 := ⟨tw_487, tw_488, tw_5, rfl, ⟨by decide +kernel, by decide +kernel, by decide +kernel⟩⟩
theorem lk_la_83 : gLS "PackSeedsLaw" 83 y_la_pattern 2 := ⟨tw_138, tw_139, tw_0, ⟨by decide +kernel, by decide +kernel, by decide +kernel⟩⟩
theorem lk_la_86 : gLV "PackSeedsLaw" 86 y_mo_pattern 0 := ⟨tw_537, tw_538, tw_539, tw_5, ⟨by decide +kernel, by decide +kernel, by decide +kernel⟩⟩
theorem lk_la_87 : gLV "PackSeedsLaw" 87 y_mo_thrown 0 := ⟨tw_533, tw_534, tw_535, tw_5, ⟨by decide +kernel, by decide +kernel, by decide +kernel⟩⟩
theorem lk_la_90 : gLS "PackSeedsLaw" 90 y_la_care 6 := ⟨tw_243, tw_244, tw_0, ⟨by decide +kernel, by decide +kernel, by decide +kernel⟩⟩
theorem lk_la_93 : gLV "PackSeedsLaw" 93 y_mo_care 4 := ⟨tw_541, tw_542, tw_543, tw_5, ⟨by decide +kernel, by decide +kernel, by decide +kernel⟩⟩
theorem lk_la_94 : gLV "PackSeedsLaw" 94 y_ps_join 0 := ⟨tw_84, tw_85, tw_86, tw_1, ⟨by decide +kernel, by decide +kernel, by decide +kernel⟩⟩
theorem lk_la_97 : gLV "PackSeedsLaw" 97 y_mo_join 0 := ⟨tw_565, tw_566, tw_567, tw_5, ⟨by decide +kernel, by decide +kernel, by decide +kernel⟩⟩
theorem lk_la_98 : gLS "PackSeedsLaw" 98 y_la_degree 2 := ⟨tw_304, tw_305, tw_0, ⟨by decide +kernel, by decide +kernel, by decide +kernel⟩⟩
theorem lk_la_101 : gLV "PackSeedsLaw" 101 y_mo_degree 1 := ⟨tw_589, tw_590, tw_591, tw_5, ⟨by decide +kernel, by decide +kernel, by decide +kernel⟩⟩
theorem lk_la_102 : gLS "PackSeedsLaw" 102 y_la_machine 4 := ⟨tw_320, tw_321, tw_0, ⟨by decide +kernel, by decide +kernel, by decide +kernel⟩⟩
theorem lk_la_105 : gLV "PackSeedsLaw" 105 y_mo_machine 2 := ⟨tw_597, tw_598, tw_599, tw_5, ⟨by decide +kernel, by decide +kernel, by decide +kernel⟩⟩
theorem lk_la_106 : gLS "PackSeedsLaw" 106 y_la_seed 3 := ⟨tw_337, tw_338, tw_0, ⟨by decide +kernel, by decide +kernel, by decide +kernel⟩⟩
theorem lk_la_109 : gLV "PackSeedsLaw" 109 y_mo_seed 1 := ⟨tw_601, tw_602, tw_603, tw_5, ⟨by decide +kernel, by decide +kernel, by decide +kernel⟩⟩
theorem lk_la_110 : gLS "PackSeedsLaw" 110 y_la_seedOf 3 := ⟨tw_371, tw_372, tw_0, ⟨by decide +kernel, by decide +kernel, by decide +kernel⟩⟩
theorem lk_la_112 : gLV "PackSeedsLaw" 112 y_mo_seedOf 1 := ⟨tw_613, tw_614, tw_615, tw_5, ⟨by decide +kernel, by decide +kernel, by decide +kernel⟩⟩
theorem lk_la_113 : gLS "PackSeedsLaw" 113 y_la_bit 5 := ⟨tw_378, tw_379, tw_0, ⟨by decide +kernel, by decide +kernel, by decide +kernel⟩⟩
theorem lk_la_116 : gLV "PackSeedsLaw" 116 y_mo_bit 3 := ⟨tw_617, tw_618, tw_619, tw_5, ⟨by decide +kernel, by decide +kernel, by decide +kernel⟩⟩
theorem lk_la_117 : gLS "PackSeedsLaw" 117 y_la_found 4 := ⟨tw_399, tw_400, tw_0, ⟨by decide +kernel, by decide +kernel, by decide +kernel⟩⟩
theorem lk_la_120 : gLV "PackSeedsLaw" 120 y_mo_found 2 := ⟨tw_557, tw_558, tw_559, tw_5, ⟨by decide +kernel, by decide +kernel, by decide +kernel⟩⟩
theorem lk_la_121 : gLV "PackSeedsLaw" 121 y_ps_drop 0 := ⟨tw_109, tw_110, tw_111, tw_1, ⟨by decide +kernel, by decide +kernel, by decide +kernel⟩⟩
theorem lk_la_124 : gLV "PackSeedsLaw" 124 y_mo_drop 0 := ⟨tw_577, tw_578, tw_579, tw_5, ⟨by decide +kernel, by decide +kernel, by decide +kernel⟩⟩
theorem lk_la_125 : gLS "PackSeedsLaw" 125 y_la_finders 3 := ⟨tw_410, tw_411, tw_0, ⟨by decide +kernel, by decide +kernel, by decide +kernel⟩⟩
theorem lk_la_127 : gLV "PackSeedsLaw" 127 y_mo_finders 1 := ⟨tw_585, tw_586, tw_587, tw_5, ⟨by decide +kernel, by decide +kernel, by decide +kernel⟩⟩
theorem lk_la_128 : gLS "PackSeedsLaw" 128 y_la_mask 5 := ⟨tw_417, tw_418, tw_0, ⟨by decide +kernel, by decide +kernel, by decide +kernel⟩⟩
theorem lk_la_130 : gLV "PackSeedsLaw" 130 y_mo_mask 3 := ⟨tw_561, tw_562, tw_563, tw_5, ⟨by decide +kernel, by decide +kernel, by decide +kernel⟩⟩
theorem lk_la_131 : gLS "PackSeedsLaw" 131 y_la_signature 4 := ⟨tw_424, tw_425, tw_0, ⟨by decide +kernel, by decide +kernel, by decide +kernel⟩⟩
theorem lk_la_133 : gLV "PackSeedsLaw" 133 y_mo_signature 2 := ⟨tw_637, tw_638, tw_639, tw_5, ⟨by decide +kernel, by decide +kernel, by decide +kernel⟩⟩
theorem lk_la_134 : gLV "PackSeedsLaw" 134 y_ps_primitive 0 := ⟨tw_117, tw_118, tw_119, tw_1, ⟨by decide +kernel, by decide +kernel, by decide +kernel⟩⟩
theorem lk_la_138 : gLV "PackSeedsLaw" 138 y_mo_primitive 0 := ⟨tw_641, tw_642, tw_643, tw_5, ⟨by decide +kernel, by decide +kernel, by decide +kernel⟩⟩
theorem lk_la_139 : gLS "PackSeedsLaw" 139 y_la_alias 4 := ⟨tw_437, tw_438, tw_0, ⟨by decide +kernel, by decide +kernel, by decide +kernel⟩⟩
theorem lk_la_141 : gLV "PackSeedsLaw" 141 y_mo_alias 2 := ⟨tw_645, tw_646, tw_647, tw_5, ⟨by decide +kernel, by decide +kernel, by decide +kernel⟩⟩
theorem lk_la_142 : gLS "PackSeedsLaw" 142 y_la_fill 3 := ⟨tw_453, tw_454, tw_0, ⟨by decide +kernel, by decide +kernel, by decide +kernel⟩⟩
theorem lk_la_144 : gLV "PackSeedsLaw" 144 y_mo_fill 1 := ⟨tw_629, tw_630, tw_631, tw_5, ⟨by decide +kernel, by decide +kernel, by decide +kernel⟩⟩
theorem lk_la_145 : gLS "PackSeedsLaw" 145 y_la_shifts 3 := ⟨tw_461, tw_462, tw_0, ⟨by decide +kernel, by decide +kernel, by decide +kernel⟩⟩
theorem lk_la_147 : gLV "PackSeedsLaw" 147 y_mo_shifts 1 := ⟨tw_633, tw_634, tw_635, tw_5, ⟨by decide +kernel, by decide +kernel, by decide +kernel⟩⟩
theorem lk_la_148 : gLS "PackSeedsLaw" 148 y_la_count 3 := ⟨tw_468, tw_469, tw_0, ⟨by decide +kernel, by decide +kernel, by decide +kernel⟩⟩
theorem lk_la_150 : gLV "PackSeedsLaw" 150 y_mo_count 1 := ⟨tw_653, tw_654, tw_655, tw_5, ⟨by decide +kernel, by decide +kernel, by decide +kernel⟩⟩
end
section
/-! Rows for the walker: naming, compares of small numbers, loops. -/
def itr {α : Type} (f : Nat → α → α) (a : α) : Nat → α
  | 0 => a
  | n + 1 => f n (itr f a n)
theorem itr_0 {α : Type} (f : Nat → α → α) (a : α) : itr f a 0 = a := rfl
theorem itr_s {α : Type} (f : Nat → α → α) (a : α) (n : Nat) : itr f a (n + 1) = f n (itr f a n) := rfl
theorem itr_congr {α : Type} {f g : Nat → α → α} {a : α} : ∀ n, (∀ i, i < n → ∀ x, f i x = g i x) → itr f a n = itr g a n
  | 0, _ => rfl
  | n + 1, h => by rw [itr_s, itr_s, itr_congr n (fun i hi x => h i (by omega) x), h n (by omega)]
section GWALK
variable {p : Program} {l : Launch} {e : Env} {R : Room} {s : State} {m : MethodId} {args : Array Value} {below : List Frame} {meth : Method} {c : Code} {H : Heap} {locs : List Loc} {cells slots : Nat} {Q : State → Prop}
variable {cc : ByteArray} {pc : Nat} {ls : Array Slot} {rest : List Value}
theorem g_topi {x y : Int32} (h : x = y) (k : W p l e R s m args below meth c H locs cells slots Q (F0 m pc ls (.int y :: rest))) : W p l e R s m args below meth c H locs cells slots Q (F0 m pc ls (.int x :: rest)) := by rw [h]; exact k
theorem g_topl {x y : Int64} (h : x = y) (k : W p l e R s m args below meth c H locs cells slots Q (F0 m pc ls (.long y :: rest))) : W p l e R s m args below meth c H locs cells slots Q (F0 m pc ls (.long x :: rest)) := by rw [h]; exact k
theorem g_ge {a b : Nat} {off : Int} {tgt : Nat} (hexec : p.tables.exec = Jvm.exec) (hb : c.code = cc) (hdg : decode cc pc = .ok (.if_icmp .ge off, 3)) (ht : (pc : Int) + off = (tgt : Int)) (h1 : a < 2 ^ 31) (h2 : b < 2 ^ 31)
    (kt : b ≤ a → W p l e R s m args below meth c H locs cells slots Q (F0 m tgt ls rest)) (kf : a < b → W p l e R s m args below meth c H locs cells slots Q (F0 m (pc + 3) ls rest)) : W p l e R s m args below meth c H locs cells slots Q (F0 m pc ls (.int (nI b) :: .int (nI a) :: rest)) :=
  lv_icmp_ge hexec hb hdg ht (fun q => kt ((nI_leI h2 h1).mp q)) (fun q => kf (Nat.not_le.mp fun z => q ((nI_leI h2 h1).mpr z)))
theorem g_le {a b : Nat} {off : Int} {tgt : Nat} (hexec : p.tables.exec = Jvm.exec) (hb : c.code = cc) (hdg : decode cc pc = .ok (.if_icmp .le off, 3)) (ht : (pc : Int) + off = (tgt : Int)) (h1 : a < 2 ^ 31) (h2 : b < 2 ^ 31)
    (kt : a ≤ b → W p l e R s m args below meth c H locs cells slots Q (F0 m tgt ls rest)) (kf : b < a → W p l e R s m args below meth c H locs cells slots Q (F0 m (pc + 3) ls rest)) : W p l e R s m args below meth c H locs cells slots Q (F0 m pc ls (.int (nI b) :: .int (nI a) :: rest)) :=
  lv_icmp_le hexec hb hdg ht (fun q => kt ((nI_leI h1 h2).mp q)) (fun q => kf (Nat.not_le.mp fun z => q ((nI_leI h1 h2).mpr z)))
theorem g_lt {a b : Nat} {off : Int} {tgt : Nat} (hexec : p.tables.exec = Jvm.exec) (hb : c.code = cc) (hdg : decode cc pc = .ok (.if_icmp .lt off, 3)) (ht : (pc : Int) + off = (tgt : Int)) (h1 : a < 2 ^ 31) (h2 : b < 2 ^ 31)
    (kt : a < b → W p l e R s m args below meth c H locs cells slots Q (F0 m tgt ls rest)) (kf : b ≤ a → W p l e R s m args below meth c H locs cells slots Q (F0 m (pc + 3) ls rest)) : W p l e R s m args below meth c H locs cells slots Q (F0 m pc ls (.int (nI b) :: .int (nI a) :: rest)) :=
  lv_icmp_lt hexec hb hdg ht (fun q => kt ((nI_ltI h1 h2).mp q)) (fun q => kf (Nat.not_lt.mp fun z => q ((nI_ltI h1 h2).mpr z)))
theorem g_gt {a b : Nat} {off : Int} {tgt : Nat} (hexec : p.tables.exec = Jvm.exec) (hb : c.code = cc) (hdg : decode cc pc = .ok (.if_icmp .gt off, 3)) (ht : (pc : Int) + off = (tgt : Int)) (h1 : a < 2 ^ 31) (h2 : b < 2 ^ 31)
    (kt : b < a → W p l e R s m args below meth c H locs cells slots Q (F0 m tgt ls rest)) (kf : a ≤ b → W p l e R s m args below meth c H locs cells slots Q (F0 m (pc + 3) ls rest)) : W p l e R s m args below meth c H locs cells slots Q (F0 m pc ls (.int (nI b) :: .int (nI a) :: rest)) :=
  lv_icmp_gt hexec hb hdg ht (fun q => kt ((nI_ltI h2 h1).mp q)) (fun q => kf (Nat.not_lt.mp fun z => q ((nI_ltI h2 h1).mpr z)))
theorem g_eq {a b : Nat} {off : Int} {tgt : Nat} (hexec : p.tables.exec = Jvm.exec) (hb : c.code = cc) (hdg : decode cc pc = .ok (.if_icmp .eq off, 3)) (ht : (pc : Int) + off = (tgt : Int)) (h1 : a < 2 ^ 31) (h2 : b < 2 ^ 31)
    (kt : a = b → W p l e R s m args below meth c H locs cells slots Q (F0 m tgt ls rest)) (kf : a ≠ b → W p l e R s m args below meth c H locs cells slots Q (F0 m (pc + 3) ls rest)) : W p l e R s m args below meth c H locs cells slots Q (F0 m pc ls (.int (nI b) :: .int (nI a) :: rest)) :=
  lv_icmp_eq hexec hb hdg ht (fun q => kt ((nI_eq h1 h2).mp q)) (fun q => kf (fun z => q ((nI_eq h1 h2).mpr z)))
theorem g_ne {a b : Nat} {off : Int} {tgt : Nat} (hexec : p.tables.exec = Jvm.exec) (hb : c.code = cc) (hdg : decode cc pc = .ok (.if_icmp .ne off, 3)) (ht : (pc : Int) + off = (tgt : Int)) (h1 : a < 2 ^ 31) (h2 : b < 2 ^ 31)
    (kt : a ≠ b → W p l e R s m args below meth c H locs cells slots Q (F0 m tgt ls rest)) (kf : a = b → W p l e R s m args below meth c H locs cells slots Q (F0 m (pc + 3) ls rest)) : W p l e R s m args below meth c H locs cells slots Q (F0 m pc ls (.int (nI b) :: .int (nI a) :: rest)) :=
  lv_icmp_ne hexec hb hdg ht (fun q => kt (fun z => q ((nI_eq h1 h2).mpr z))) (fun q => kf ((nI_eq h1 h2).mp q))
/-- a loop that leaves the heap alone, by a measure that falls -/
theorem g_ind {V : Type} {st : List Value} (I : V → Array Slot → Prop) (μ : V → Nat) (hs : ∀ v ls, I v ls → (∀ v' ls', I v' ls' → μ v' < μ v → W p l e R s m args below meth c H locs cells slots Q (F0 m pc ls' st)) → W p l e R s m args below meth c H locs cells slots Q (F0 m pc ls st)) (v0 : V) (ls0 : Array Slot) (h : I v0 ls0) : W p l e R s m args below meth c H locs cells slots Q (F0 m pc ls0 st) := by
  have key : ∀ n v ls, μ v < n → I v ls → W p l e R s m args below meth c H locs cells slots Q (F0 m pc ls st) := by
    intro n
    induction n with
    | zero => intro v ls h; omega
    | succ n ih => intro v ls h hI; exact hs v ls hI (fun v' ls' hI' hm => ih v' ls' (by omega) hI')
  exact key (μ v0 + 1) v0 ls0 (by omega) h
/-- a loop that may write -/
theorem g_indH {V : Type} {st : List Value} (I : V → Heap → List Loc → Array Slot → Prop) (μ : V → Nat) (hs : ∀ v H locs ls, I v H locs ls → (∀ v' H' locs' ls', I v' H' locs' ls' → μ v' < μ v → W p l e R s m args below meth c H' locs' cells slots Q (F0 m pc ls' st)) → W p l e R s m args below meth c H locs cells slots Q (F0 m pc ls st)) (v0 : V) (ls0 : Array Slot) (h : I v0 H locs ls0) : W p l e R s m args below meth c H locs cells slots Q (F0 m pc ls0 st) := by
  have key : ∀ n v H locs ls, μ v < n → I v H locs ls → W p l e R s m args below meth c H locs cells slots Q (F0 m pc ls st) := by
    intro n
    induction n with
    | zero => intro v H locs ls h; omega
    | succ n ih => intro v H locs ls h hI; exact hs v H locs ls hI (fun v' H' locs' ls' hI' hm => ih v' H' locs' ls' (by omega) hI')
  exact key (μ v0 + 1) v0 H locs ls0 (by omega) h
end GWALK
end
section
/-! Methods that write, methods that throw, in these words. -/
theorem gup_keep {G : gh} {a b : Nat} {e0 e e1 : va_E} (ha : G a = some e0) (hb : G b = some e1) (hne : e0 ≠ e1) : gup G a e b = some e1 := by
  rw [gup_ne]
  · exact hb
  · intro h
    subst h
    rw [ha] at hb
    exact hne (Option.some.inj hb)
theorem gup_new {G : gh} {a b : Nat} {e e1 : va_E} (ha : G a = none) (hb : G b = some e1) : gup G a e b = some e1 := by
  rw [gup_ne]
  · exact hb
  · intro h
    subst h
    rw [ha] at hb
    cases hb
/-- the world behind a method that writes -/
def gW (Z : gZ) (G : gh) (sz : Nat) : gh → State → Prop := fun G' t => gP Z.1 cls G' t.heap ∧ ∀ a, G' a ≠ none → gA G sz a
/-- what a throw needs: the texts, Throwable's two statics -/
def gXt (A : Nat → Prop) (U : State) (H : Heap) : Prop := (∀ q ∈ gStr, ∃ sa : Nat, vk_R "PackSeeds" q.1 q.2 sa U) ∧ vx_Zq Bundle.tN "UNASSIGNED_STACK" Bundle.steD A U H ∧ vx_Zq Bundle.tN "SUPPRESSED_SENTINEL" Bundle.listD A U H
theorem gXt.go {A B : Nat → Prop} {s U : State} {H0 H : Heap} {locs : List Loc} (h : gXt A s H0) (hS : va_S A H0 H locs) (hAB : ∀ q, B q → A q) (hW : s.WarmedH U.vm) : gXt B U H :=
  ⟨fun q hq => by obtain ⟨sa, h1⟩ := h.1 q hq; exact ⟨sa, vk_R.warm hW h1⟩, vx_Zq.moved hW.alike ((h.2.1.kept hS.2.1).narrow hAB), vx_Zq.moved hW.alike ((h.2.2.kept hS.2.1).narrow hAB)⟩
def gPw (Z : gZ) (G : gh) (sz : Nat) : State → Prop := fun U => U.heap.size = sz ∧ gPure Z G U
def gPx (Z : gZ) (G : gh) (sz : Nat) : State → Prop := fun U => U.heap.size = sz ∧ gPure Z G U ∧ gXt (gA G sz) U U.heap
theorem gPw.blind {Z : gZ} {G : gh} {sz : Nat} {av : List Value} : FrameBlind (va_Pc av (gPw Z G sz)) := fun a U g mk q => ⟨q.1, q.2.1, q.2.2.1, gE.same (s := U) (U := U.calling g mk a) rfl q.2.2.2⟩
theorem gPx.blind {Z : gZ} {G : gh} {sz : Nat} {av : List Value} : FrameBlind (va_Pc av (gPx Z G sz)) := fun a U g mk q => ⟨q.1, q.2.1, ⟨q.2.2.1.1, gE.same (s := U) (U := U.calling g mk a) rfl q.2.2.1.2⟩, ⟨fun z hz => by obtain ⟨sa, h1⟩ := q.2.2.2.1 z hz; exact ⟨sa, vk_R.warm (s := U) (U := U.calling g mk a) (State.WarmedH.refl U) h1⟩, vx_Zq.moved (u := U) (U := U.calling g mk a) (Vm.Alike.refl U.vm) q.2.2.2.2.1, vx_Zq.moved (u := U) (U := U.calling g mk a) (Vm.Alike.refl U.vm) q.2.2.2.2.2⟩⟩
theorem gPwS {Z : gZ} {G : gh} {H : Heap} {s : State} {As : List Value} (hG : gP Z.1 cls G H) (hE : gE Z s) : PreS s H (va_Pc As (gPw Z G H.size)) As :=
  ⟨gPw.blind, fun U hU hW => ⟨rfl, by rw [hU], by rw [hU]; exact hG, hE.warm hW⟩⟩
theorem gPwV {Z : gZ} {G : gh} {H : Heap} {s : State} {C : String} {T : u_T} {N ci b : Nat} {fs As : List Value} (hG : gP Z.1 cls G H) (hE : gE Z s) (he : G b = some (.inr (ci, fs))) (hc : cls[ci]? = some (C, T, N)) : PreV s H C b (va_Pc (.ref b :: As) (gPw Z G H.size)) As :=
  ⟨gPw.blind, va_recv hE.1 (hG.one he) (q0 := 0) hc rfl, fun U hU hW => ⟨rfl, by rw [hU], by rw [hU]; exact hG, hE.warm hW⟩⟩
theorem gPxS {Z : gZ} {G : gh} {A : Nat → Prop} {H0 H : Heap} {locs : List Loc} {s : State} {As : List Value} (hG : gS A H0 Z.1 cls G H locs) (hE : gE Z s) (hX : gXt A s H0) : PreS s H (va_Pc As (gPx Z G H.size)) As :=
  ⟨gPx.blind, fun U hU hW => ⟨rfl, by rw [hU], ⟨by rw [hU]; exact hG.1, hE.warm hW⟩, by rw [hU]; exact hX.go hG.2.2.1 hG.free hW⟩⟩
theorem gPxV {Z : gZ} {G : gh} {A : Nat → Prop} {H0 H : Heap} {locs : List Loc} {s : State} {C : String} {T : u_T} {N ci b : Nat} {fs As : List Value} (hG : gS A H0 Z.1 cls G H locs) (hE : gE Z s) (hX : gXt A s H0) (he : G b = some (.inr (ci, fs))) (hc : cls[ci]? = some (C, T, N)) : PreV s H C b (va_Pc (.ref b :: As) (gPx Z G H.size)) As :=
  ⟨gPx.blind, va_recv hE.1 (hG.1.one he) (q0 := 0) hc rfl, fun U hU hW => ⟨rfl, by rw [hU], ⟨by rw [hU]; exact hG.1, hE.warm hW⟩, by rw [hU]; exact hX.go hG.2.2.1 hG.free hW⟩⟩
/-- a throw: which class, nothing old written -/
def gXC (XP : String → Prop) (sz : Nat) : String → State → State → Prop := vx_X (S := Unit) (fun _ => True) (fun E _ _ => XP E) (fun q => sz ≤ q)
section GWR
variable {p : Program} {l : Launch} {e : Env} {R : Room} {s : State} {m : MethodId} {args : Array Value} {below : List Frame} {meth : Method} {c : Code} {H : Heap} {locs : List Loc} {cells slots : Nat} {Q : State → Prop}
variable {cc bytes : ByteArray} {pc nL maxL mc ms n index b : Nat} {ret : Option FieldType} {ls : Array Slot} {st0 rest As : List Value} {own : String} {y : MethodName} {rm : Room} {Pc : Array Value → State → Prop} {Qc : Array Value → State → Outcome → State → Prop} {XC : String → State → State → Prop} {free : Addr → Prop} {Z : gZ} {G : gh} {A : Nat → Prop} {H0 : Heap} {aa : Array Value}
/-- calls of methods that write -/
theorem g_wi {post : Int32 → gh → Prop} (hG : gS A H0 Z.1 cls G H locs) (hr : va_Run p l e R s m args below meth c H locs cells slots mc ms (F0 m pc ls st0) rest (va_Qi post (gW Z G H.size) (gA G H.size) aa) (gA G H.size))
    (kk : ∀ (r : Int32) (G' : gh) (H1 : Heap) (locs1 : List Loc), post r G' → gS A H0 Z.1 cls G' H1 locs1 → W p l e R s m args below meth c H1 locs1 (cells + mc) (slots + ms) Q (F0 m (pc + 3) ls (.int r :: rest))) : W p l e R s m args below meth c H locs cells slots Q (F0 m pc ls st0) :=
  va_calli hr hG.2.2.1 (fun q _ h => hG.free q h) hG.free (fun r u t H1 locs1 ht _ hp hB _ _ hS => kk r u H1 locs1 hp (hG.back (by rw [← ht]; exact hB.1) hB.2 hS))
theorem g_wl {post : Int64 → gh → Prop} (hG : gS A H0 Z.1 cls G H locs) (hr : va_Run p l e R s m args below meth c H locs cells slots mc ms (F0 m pc ls st0) rest (va_Ql post (gW Z G H.size) (gA G H.size) aa) (gA G H.size))
    (kk : ∀ (r : Int64) (G' : gh) (H1 : Heap) (locs1 : List Loc), post r G' → gS A H0 Z.1 cls G' H1 locs1 → W p l e R s m args below meth c H1 locs1 (cells + mc) (slots + ms) Q (F0 m (pc + 3) ls (.long r :: rest))) : W p l e R s m args below meth c H locs cells slots Q (F0 m pc ls st0) :=
  va_calll hr hG.2.2.1 (fun q _ h => hG.free q h) hG.free (fun r u t H1 locs1 ht _ hp hB _ _ hS => kk r u H1 locs1 hp (hG.back (by rw [← ht]; exact hB.1) hB.2 hS))
theorem g_wv {post : gh → Prop} (hG : gS A H0 Z.1 cls G H locs) (hr : va_Run p l e R s m args below meth c H locs cells slots mc ms (F0 m pc ls st0) rest (va_Qv post (gW Z G H.size) (gA G H.size) aa) (gA G H.size))
    (kk : ∀ (G' : gh) (H1 : Heap) (locs1 : List Loc), post G' → gS A H0 Z.1 cls G' H1 locs1 → W p l e R s m args below meth c H1 locs1 (cells + mc) (slots + ms) Q (F0 m (pc + 3) ls rest)) : W p l e R s m args below meth c H locs cells slots Q (F0 m pc ls st0) :=
  va_callv hr hG.2.2.1 (fun q _ h => hG.free q h) hG.free (fun u t H1 locs1 ht _ hp hB _ _ hS => kk u H1 locs1 hp (hG.back (by rw [← ht]; exact hB.1) hB.2 hS))
/-- calls of methods that may throw -/
theorem g_xrunV (S : CallFix p m c cc nL s args Gall own) (L : gLV own index y n) (k0 : Cond.code y bytes maxL ret ∈ Gall) (hM : vx_Met l y (Cond.code y bytes maxL ret :: Gall) rm Pc Qc XC mc ms free) (hrm : rm.cells = mc ∧ rm.slots = ms) (hR : rm.frames + 1 ≤ R.frames ∧ 8 + (maxL + 11) + rm.locals ≤ R.locals) (hp : PreV s H y.cls b Pc As) (hn : As.length = n) (hsize : ls.size = nL) (hst : st0 = As.reverse ++ .ref b :: rest) (hW : (rest.map fun v => v.category).sum ≤ 8) (hdg : decode cc pc = .ok (.invokevirtual index, 3)) (hf : cells + mc ≤ R.cells ∧ slots + ms ≤ R.slots) :
    vx_Run p l e R s m args below meth c H locs cells slots mc ms (F0 m pc ls st0) rest (Qc (Value.ref b :: As).toArray) XC free :=
  vx_runV (g := F0 m pc ls st0) S hM ⟨g_callB S k0 L.1 L.2.2.2.1 L.2.2.2.2 hrm hR, S.2.2.2.2 _ L.2.1, S.2.2.2.2 _ L.2.2.1⟩ hp rfl hn hsize hst (lv_room hW) hdg hf
theorem g_xrunS (S : CallFix p m c cc nL s args Gall own) (L : gLS own index y n) (k0 : Cond.code y bytes maxL ret ∈ Gall) (hM : vx_Met l y (Cond.code y bytes maxL ret :: Gall) rm Pc Qc XC mc ms free) (hrm : rm.cells = mc ∧ rm.slots = ms) (hR : rm.frames + 1 ≤ R.frames ∧ 8 + (maxL + 11) + rm.locals ≤ R.locals) (hp : PreS s H Pc As) (hn : As.length = n) (hsize : ls.size = nL) (hst : st0 = As.reverse ++ rest) (hW : (rest.map fun v => v.category).sum ≤ 8) (hdg : decode cc pc = .ok (.invokestatic index, 3)) (hf : cells + mc ≤ R.cells ∧ slots + ms ≤ R.slots) :
    vx_Run p l e R s m args below meth c H locs cells slots mc ms (F0 m pc ls st0) rest (Qc As.toArray) XC free :=
  vx_runS (g := F0 m pc ls st0) S hM ⟨g_callB S k0 L.1 L.2.2.1 L.2.2.2 hrm hR, S.2.2.2.2 _ L.2.1⟩ hp rfl hn hsize hst (lv_room hW) hdg hf
/-- where a call has thrown: the heap's old cells are as they were -/
def gThr (p : Program) (l : Launch) (e : Env) (R : Room) (s : State) (m : MethodId) (args : Array Value) (below : List Frame) (meth : Method) (c : Code) (H : Heap) (locs : List Loc) (cells slots : Nat) (Q : State → Prop) (g : JFrame) (XP : String → Prop) : Prop :=
  ∀ (E : String) (ce : Cell) (q9 : Addr) (H1 : Heap), XP E → H.size ≤ H1.size → (∀ q : Nat, q < H.size → H1[q]? = H[q]?) → H1[q9]? = some ce → ce.vm = .none → s.vm.findClass E = some ce.cls → vx_W p l e R s m args below meth c H1 locs cells slots Q g q9
theorem g_xreti {post : Int32 → Prop} {XP : String → Prop} (hz : s.heap.size ≤ H.size) (hr : vx_Run p l e R s m args below meth c H locs cells slots mc ms (F0 m pc ls st0) rest (vp_Si post aa) (gXC XP H.size) (fun q => H.size ≤ q))
    (kx : gThr p l e R s m args below meth c H locs (cells + mc) (slots + ms) Q (F0 m pc ls rest) XP)
    (kk : ∀ r : Int32, post r → W p l e R s m args below meth c H locs (cells + mc) (slots + ms) Q (F0 m (pc + 3) ls (.int r :: rest))) : W p l e R s m args below meth c H locs cells slots Q (F0 m pc ls st0) := by
  intro T hT X
  rcases hr T hT X with ⟨v, st₀, t, T', L, h0, X', hL, e1, e2, ⟨r, hv, hp, hh⟩, st⟩ | ⟨q, st₀, t, T', L, E, ce, h0, X', hL, e1, e2, ⟨u, -, hp, hF⟩, hce, hcv, hcl, st⟩
  · cases hv
    obtain ⟨t2, a1, b1⟩ := kk r hp T' (by rw [e1, hh, h0]) (Stand.forget X' (fun q h => Nat.le_trans hz (hL q h)))
    exact ⟨t2, st t2 a1, b1⟩
  · obtain ⟨hz1, hk1⟩ := hF
    rw [h0] at hz1 hk1
    obtain ⟨t2, a1, b1⟩ := kx E ce q T'.heap hp (by rw [e1]; exact hz1) (fun q h => by rw [e1]; exact hk1 q h (by omega)) (by rw [e1]; exact hce) hcv hcl T' rfl (Stand.forget X' (fun q h => Nat.le_trans hz (hL q h)))
    exact ⟨t2, st.trans a1, b1⟩
theorem g_xretl {post : Int64 → Prop} {XP : String → Prop} (hz : s.heap.size ≤ H.size) (hr : vx_Run p l e R s m args below meth c H locs cells slots mc ms (F0 m pc ls st0) rest (vp_Sl post aa) (gXC XP H.size) (fun q => H.size ≤ q))
    (kx : gThr p l e R s m args below meth c H locs (cells + mc) (slots + ms) Q (F0 m pc ls rest) XP)
    (kk : ∀ r : Int64, post r → W p l e R s m args below meth c H locs (cells + mc) (slots + ms) Q (F0 m (pc + 3) ls (.long r :: rest))) : W p l e R s m args below meth c H locs cells slots Q (F0 m pc ls st0) := by
  intro T hT X
  rcases hr T hT X with ⟨v, st₀, t, T', L, h0, X', hL, e1, e2, ⟨r, hv, hp, hh⟩, st⟩ | ⟨q, st₀, t, T', L, E, ce, h0, X', hL, e1, e2, ⟨u, -, hp, hF⟩, hce, hcv, hcl, st⟩
  · cases hv
    obtain ⟨t2, a1, b1⟩ := kk r hp T' (by rw [e1, hh, h0]) (Stand.forget X' (fun q h => Nat.le_trans hz (hL q h)))
    exact ⟨t2, st t2 a1, b1⟩
  · obtain ⟨hz1, hk1⟩ := hF
    rw [h0] at hz1 hk1
    obtain ⟨t2, a1, b1⟩ := kx E ce q T'.heap hp (by rw [e1]; exact hz1) (fun q h => by rw [e1]; exact hk1 q h (by omega)) (by rw [e1]; exact hce) hcv hcl T' rfl (Stand.forget X' (fun q h => Nat.le_trans hz (hL q h)))
    exact ⟨t2, st.trans a1, b1⟩
theorem g_xretq {post : Option Nat → Prop} {XP : String → Prop} (hz : s.heap.size ≤ H.size) (hr : vx_Run p l e R s m args below meth c H locs cells slots mc ms (F0 m pc ls st0) rest (va_Sq post aa) (gXC XP H.size) (fun q => H.size ≤ q))
    (kx : gThr p l e R s m args below meth c H locs (cells + mc) (slots + ms) Q (F0 m pc ls rest) XP)
    (kk : ∀ r : Option Nat, post r → W p l e R s m args below meth c H locs (cells + mc) (slots + ms) Q (F0 m (pc + 3) ls (va_rf r :: rest))) : W p l e R s m args below meth c H locs cells slots Q (F0 m pc ls st0) := by
  intro T hT X
  rcases hr T hT X with ⟨v, st₀, t, T', L, h0, X', hL, e1, e2, ⟨r, hv, hp, hh⟩, st⟩ | ⟨q, st₀, t, T', L, E, ce, h0, X', hL, e1, e2, ⟨u, -, hp, hF⟩, hce, hcv, hcl, st⟩
  · cases hv
    obtain ⟨t2, a1, b1⟩ := kk r hp T' (by rw [e1, hh, h0]) (Stand.forget X' (fun q h => Nat.le_trans hz (hL q h)))
    exact ⟨t2, st t2 a1, b1⟩
  · obtain ⟨hz1, hk1⟩ := hF
    rw [h0] at hz1 hk1
    obtain ⟨t2, a1, b1⟩ := kx E ce q T'.heap hp (by rw [e1]; exact hz1) (fun q h => by rw [e1]; exact hk1 q h (by omega)) (by rw [e1]; exact hce) hcv hcl T' rfl (Stand.forget X' (fun q h => Nat.le_trans hz (hL q h)))
    exact ⟨t2, st.trans a1, b1⟩
/-- a callee's throw goes on to the caller: no handler here, nothing written yet -/
theorem g_out {XP YP : String → Prop} {mc0 ms0 : Nat} (ht : ∀ x ∈ c.exceptionTable.toList, False) (hlocks : meth.locks = false) (hXY : ∀ E, XP E → YP E) (hf : ∀ z ∈ locs, free z.base) (hc : cells ≤ mc0) (hs : slots ≤ ms0) :
    gThr p l e R s m args below meth c s.heap locs cells slots (vx_MQ below Qc (gXC YP s.heap.size) args s mc0 ms0 free) (F0 m pc ls rest) XP :=
  fun E ce q9 H1 hE hz hk h9 hv hcl => vx_out (fun x hx => (ht x hx).elim) hlocks h9 hv hcl (fun t ht' _ => ⟨(), trivial, hXY E hE, by rw [ht']; exact hz, fun q h1 _ => by rw [ht']; exact hk q h1⟩) hf hc hs
/-- throw new E("text"), nothing written yet -/
theorem g_throw {cls0 text : String} {ik is ic mc0 ms0 : Nat} {YP : String → Prop} (S : CallFix p m c cc nL s args Gall "PackSeeds") (hE : gE Z s) (hl : l.stackTraces = false) (hX : gXt (gA G s.heap.size) s s.heap) (hstr : (is, text) ∈ gStr) (hcls : Bundle.fit cls0 = true)
    (hk : Cond.classLink "PackSeeds" ik cls0 ∈ Gall) (hini : Cond.initialized cls0 ∈ Gall) (hat : ∀ w ∈ vx_atS "PackSeeds" ic cls0 ["java/lang/RuntimeException", "java/lang/Exception"], w ∈ Gall ∨ w ∈ gNw)
    (hgood : ∀ w ∈ Cond.classLink "PackSeeds" ik cls0 :: Cond.initialized cls0 :: vx_atS "PackSeeds" ic cls0 ["java/lang/RuntimeException", "java/lang/Exception"], vx_ot w = true)
    (hlz : ∀ z ∈ locs, free z.base) (hA : ∀ z ∈ locs, gA G s.heap.size z.base) (hsize : ls.size = nL)
    (d0 : decode cc pc = .ok (.new ik, 3)) (d3 : decode cc (pc + 3) = .ok (.dup, 1)) (d4 : decode cc (pc + 4) = .ok (.ldc is, 2)) (d6 : decode cc (pc + 6) = .ok (.invokespecial ic, 3)) (d9 : decode cc (pc + 9) = .ok (.athrow, 1))
    (ht : ∀ x ∈ c.exceptionTable.toList, False) (hRf : 5 < R.frames) (hRl : (rest.map fun v => v.category).sum + 82 ≤ R.locals) (hRc : cells + 1 ≤ R.cells) (hRs : slots + 6 ≤ R.slots) (hlocks : meth.locks = false) (hY : YP cls0) (hc : cells + 1 ≤ mc0) (hs : slots + 6 ≤ ms0) :
    W p l e R s m args below meth c s.heap locs cells slots (vx_MQ below Qc (gXC YP s.heap.size) args s mc0 ms0 free) (F0 m pc ls rest) := by
  obtain ⟨sa, hsa⟩ := hX.1 _ hstr
  refine vx_throwS (sa := sa) (A := gA G s.heap.size) S.1 S.2.1 hl S.2.2.2.1 hcls (by decide +kernel) (S.2.2.2.2 _ hk) (S.2.2.2.2 _ hini) hsa (fun w hw => ?_) hgood hX.2.1 hX.2.2 ⟨Nat.le_refl _, fun _ _ _ => rfl, hA⟩ (hsize.trans S.2.2.1.symm) d0 d3 d4 d6 d9 (fun x hx => (ht x hx).elim) (by simpa using hRf) (by simpa using hRl) hRc hRs hlocks (fun t _ hz hk => ⟨(), trivial, hY, hz, fun q h1 _ => hk q h1⟩) hlz hc hs
  rcases hat w hw with h | h
  · exact S.2.2.2.2 _ h
  · exact va_Nw.use (gNw_on w h) (hE.2 _ h)
end GWR
end
section
/-! What the class's methods answer, as functions of numbers. -/
def bcnt (i : Int32) : Int32 :=
  let a := i - ((i.toUInt32 >>> ((1 : Int32).toUInt32 &&& Int32.toUInt32 31)).toInt32 &&& 1431655765)
  let b := (a &&& 858993459) + ((a.toUInt32 >>> ((2 : Int32).toUInt32 &&& Int32.toUInt32 31)).toInt32 &&& 858993459)
  let d := (b + (b.toUInt32 >>> ((4 : Int32).toUInt32 &&& Int32.toUInt32 31)).toInt32) &&& 252645135
  let f := d + (d.toUInt32 >>> ((8 : Int32).toUInt32 &&& Int32.toUInt32 31)).toInt32
  let g := f + (f.toUInt32 >>> ((16 : Int32).toUInt32 &&& Int32.toUInt32 31)).toInt32
  g &&& 63
def stepC (stg tp st : Int32) : Int32 := ((st <<< ((1 : Int32) &&& 31)) ||| (bcnt (st &&& tp) &&& 1)) &&& (((1 : Int32) <<< (stg &&& 31)) - 1)
def sarC (stg num : Int32) : Int32 := if 1 ≤ stg then num - num / stg * stg else 0
def plC (ch ce : Int32) : Int32 := (1 : Int32) <<< ((ch * 8 + ce) &&& 31)
def rowC (ce sd : Int32) : Int64 := (ce.toInt64 <<< ((16 : Int32).toInt64 &&& 63)) ||| sd.toInt64
def celC (r : Int64) : Int64 := r >>> ((16 : Int32).toInt64 &&& 63)
def tapC (tp k : Int32) : Int32 := if tp &&& ((1 : Int32) <<< (k &&& 31)) = 0 then 0 else 1
def carC (ca va pl : Int32) : Int32 := if ca &&& pl = 0 then -1 else if va &&& pl = 0 then 0 else 1
def gowC (ca va ca' va' : Int32) : Int32 := if (ca &&& ca') &&& (va ^^^ va') = 0 then 1 else 0
end
section
set_option maxHeartbeats 4000000 in
set_option maxRecDepth 100000 in
theorem c_in_bitCount (l : Launch) (Z : gZ) (G : gh) (x : Int32) : Met l y_in_bitCount (wd_in_bitCount :: Gall) ({ frames := 0, cells := 0, slots := 0, locals := 0 }) (va_Pc [.int x] (gPure Z G)) (vp_Si (fun r : Int32 => r = bcnt x)) 0 0 (fun _ => False) := by
  refine Met.ofW (cc := b_in_bitCount) (maxL := 1) (ret := (some .int)) (by decide) rfl ?_
  intro p e s m args below meth c s₁ B hml hv
  obtain ⟨rfl, hG, hE⟩ := hv
  have hx := B.exec
  have hb := B.bytes
  have hr := B.returns
  have hlocks := B.notSynchronized
  have S : CallFix p m c b_in_bitCount 1 s _ Gall "java/lang/Integer" := ⟨hx, hb, hml, findClass_of_methodNamed B.named, fun w hw => atoms_spec (ws := wd_in_bitCount :: Gall) B.pre w (List.mem_cons_of_mem _ hw)⟩
  have hl := lv_entry ([.int x]) (n := 1) (Nat.le_of_ble_eq_true rfl)
  rw [lg_entry_eq]
  generalize (lg_sl ([.int x]) ++ List.replicate (1 - (lg_sl ([.int x])).length) Slot.unset).toArray = ls at hl ⊢
  have hl : lv_has ls 1 [(0, .int x)] := hl
  refine lv_iload_n hx hb d_in_bitCount_0 rfl (lv_at hl 0 rfl) ?_
  refine lv_iload_n hx hb d_in_bitCount_1 rfl (lv_at hl 0 rfl) ?_
  refine lv_iconst (v := 1) hx hb d_in_bitCount_2 (by decide) ?_
  refine lv_iushr hx hb d_in_bitCount_3 rfl ?_
  refine lv_ldcw hx hb S.2.2.2.1 (S.2.2.2.2 _ tw_132) d_in_bitCount_4 ?_
  refine lv_iand hx hb d_in_bitCount_7 ?_
  refine lv_isub hx hb d_in_bitCount_8 ?_
  refine lv_topi (fun x9 e9 => ?_)
  refine lv_istore_n (lv' := [(0, .int x9)]) hx hb d_in_bitCount_9 rfl hl (by decide) rfl (fun ls hl => ?_)
  refine lv_iload_n hx hb d_in_bitCount_10 rfl (lv_at hl 0 rfl) ?_
  refine lv_ldcw hx hb S.2.2.2.1 (S.2.2.2.2 _ tw_133) d_in_bitCount_11 ?_
  refine lv_iand hx hb d_in_bitCount_14 ?_
  refine lv_iload_n hx hb d_in_bitCount_15 rfl (lv_at hl 0 rfl) ?_
  refine lv_iconst (v := 2) hx hb d_in_bitCount_16 (by decide) ?_
  refine lv_iushr hx hb d_in_bitCount_17 rfl ?_
  refine lv_ldcw hx hb S.2.2.2.1 (S.2.2.2.2 _ tw_133) d_in_bitCount_18 ?_
  refine lv_iand hx hb d_in_bitCount_21 ?_
  refine lv_iadd hx hb d_in_bitCount_22 ?_
  refine lv_topi (fun x23 e23 => ?_)
  refine lv_istore_n (lv' := [(0, .int x23)]) hx hb d_in_bitCount_23 rfl hl (by decide) rfl (fun ls hl => ?_)
  refine lv_iload_n hx hb d_in_bitCount_24 rfl (lv_at hl 0 rfl) ?_
  refine lv_iload_n hx hb d_in_bitCount_25 rfl (lv_at hl 0 rfl) ?_
  refine lv_iconst (v := 4) hx hb d_in_bitCount_26 (by decide) ?_
  refine lv_iushr hx hb d_in_bitCount_27 rfl ?_
  refine lv_iadd hx hb d_in_bitCount_28 ?_
  refine lv_ldcw hx hb S.2.2.2.1 (S.2.2.2.2 _ tw_134) d_in_bitCount_29 ?_
  refine lv_iand hx hb d_in_bitCount_32 ?_
  refine lv_topi (fun x33 e33 => ?_)
  refine lv_istore_n (lv' := [(0, .int x33)]) hx hb d_in_bitCount_33 rfl hl (by decide) rfl (fun ls hl => ?_)
  refine lv_iload_n hx hb d_in_bitCount_34 rfl (lv_at hl 0 rfl) ?_
  refine lv_iload_n hx hb d_in_bitCount_35 rfl (lv_at hl 0 rfl) ?_
  refine lv_bipush (v := 8) hx hb d_in_bitCount_36 (by decide) ?_
  refine lv_iushr hx hb d_in_bitCount_38 rfl ?_
  refine lv_iadd hx hb d_in_bitCount_39 ?_
  refine lv_topi (fun x40 e40 => ?_)
  refine lv_istore_n (lv' := [(0, .int x40)]) hx hb d_in_bitCount_40 rfl hl (by decide) rfl (fun ls hl => ?_)
  refine lv_iload_n hx hb d_in_bitCount_41 rfl (lv_at hl 0 rfl) ?_
  refine lv_iload_n hx hb d_in_bitCount_42 rfl (lv_at hl 0 rfl) ?_
  refine lv_bipush (v := 16) hx hb d_in_bitCount_43 (by decide) ?_
  refine lv_iushr hx hb d_in_bitCount_45 rfl ?_
  refine lv_iadd hx hb d_in_bitCount_46 ?_
  refine lv_topi (fun x47 e47 => ?_)
  refine lv_istore_n (lv' := [(0, .int x47)]) hx hb d_in_bitCount_47 rfl hl (by decide) rfl (fun ls hl => ?_)
  refine lv_iload_n hx hb d_in_bitCount_48 rfl (lv_at hl 0 rfl) ?_
  refine lv_bipush (v := 63) hx hb d_in_bitCount_49 (by decide) ?_
  refine lv_iand hx hb d_in_bitCount_51 ?_
  exact W.iret hx hb hr (fun t9 ht9 hW9 => ⟨_, rfl, (by subst_vars; rfl), ht9⟩) (fun _ h => nomatch h) d_in_bitCount_52

set_option maxHeartbeats 4000000 in
set_option maxRecDepth 100000 in
theorem c_ma_step (l : Launch) (Z : gZ) (G : gh) (h : Nat) {sh ro : Nat} {stg tp : Int32} (hm : G h = some (.inr (2, [.ref sh, .ref ro, .int stg, .int tp]))) (x : Int32) : Met l y_ma_step (wd_ma_step :: Gall) ({ frames := 1, cells := 0, slots := 0, locals := 20 }) (va_Pc [.ref h, .int x] (gPure Z G)) (vp_Si (fun r : Int32 => r = stepC stg tp x)) 0 0 (fun _ => False) := by
  refine Met.ofW (cc := b_ma_step) (maxL := 3) (ret := (some .int)) (by decide) rfl ?_
  intro p e s m args below meth c s₁ B hml hv
  obtain ⟨rfl, hG, hE⟩ := hv
  have hx := B.exec
  have hb := B.bytes
  have hr := B.returns
  have hlocks := B.notSynchronized
  have S : CallFix p m c b_ma_step 3 s _ Gall "PackSeeds$Machine" := ⟨hx, hb, hml, findClass_of_methodNamed B.named, fun w hw => atoms_spec (ws := wd_ma_step :: Gall) B.pre w (List.mem_cons_of_mem _ hw)⟩
  have hl := lv_entry ([.ref h, .int x]) (n := 3) (Nat.le_of_ble_eq_true rfl)
  rw [lg_entry_eq]
  generalize (lg_sl ([.ref h, .int x]) ++ List.replicate (3 - (lg_sl ([.ref h, .int x])).length) Slot.unset).toArray = ls at hl ⊢
  have hl : lv_has ls 3 [(0, .ref h), (1, .int x)] := hl
  refine lv_iload_n hx hb d_ma_step_0 rfl (lv_at hl 1 rfl) ?_
  refine lv_aload_n hx hb d_ma_step_1 rfl (lv_at hl 0 rfl) ?_
  refine g_get S hE.1 hG hm rfl in_ma 3 (by decide) tw_55 (fun _ h9 => h9) rfl d_ma_step_2 ?_
  refine lv_iand hx hb d_ma_step_5 ?_
  refine g_reti (g_runS (As := [.int (x &&& tp)]) (rest := []) S lk_ma_26 k_in_bitCount (c_in_bitCount l Z G (x &&& tp)) ⟨rfl, rfl⟩ ⟨Nat.le_of_ble_eq_true rfl, Nat.le_of_ble_eq_true rfl⟩ (gPreS hG hE) rfl hl.1 rfl (Nat.le_of_ble_eq_true rfl) d_ma_step_6 ⟨Nat.le_of_ble_eq_true rfl, Nat.le_of_ble_eq_true rfl⟩) (fun r6 h6 => ?_)
  refine lv_iconst (v := 1) hx hb d_ma_step_9 (by decide) ?_
  refine lv_iand hx hb d_ma_step_10 ?_
  refine lv_topi (fun x11 e11 => ?_)
  refine lv_istore_n (lv' := [(2, .int x11), (0, .ref h), (1, .int x)]) hx hb d_ma_step_11 rfl hl (by decide) rfl (fun ls hl => ?_)
  refine lv_iload_n hx hb d_ma_step_12 rfl (lv_at hl 2 rfl) ?_
  refine lv_iconst (v := 1) hx hb d_ma_step_13 (by decide) ?_
  refine lv_ishl hx hb d_ma_step_14 ?_
  refine lv_iload_n hx hb d_ma_step_15 rfl (lv_at hl 0 rfl) ?_
  refine lv_ior hx hb d_ma_step_16 ?_
  refine lv_iconst (v := 1) hx hb d_ma_step_17 (by decide) ?_
  refine lv_aload_n hx hb d_ma_step_18 rfl (lv_at hl 1 rfl) ?_
  refine g_get S hE.1 hG hm rfl in_ma 2 (by decide) tw_53 (fun _ h9 => h9) rfl d_ma_step_19 ?_
  refine lv_ishl hx hb d_ma_step_22 ?_
  refine lv_iconst (v := 1) hx hb d_ma_step_23 (by decide) ?_
  refine lv_isub hx hb d_ma_step_24 ?_
  refine lv_iand hx hb d_ma_step_25 ?_
  exact W.iret hx hb hr (fun t9 ht9 hW9 => ⟨_, rfl, (by subst_vars; rfl), ht9⟩) (fun _ h => nomatch h) d_ma_step_26

set_option maxHeartbeats 4000000 in
set_option maxRecDepth 100000 in
theorem c_ma_stageAround (l : Launch) (Z : gZ) (G : gh) (h : Nat) {sh ro : Nat} {stg tp : Int32} (hm : G h = some (.inr (2, [.ref sh, .ref ro, .int stg, .int tp]))) (x : Int32) : Met l y_ma_stageAround (wd_ma_stageAround :: Gall) ({ frames := 0, cells := 0, slots := 0, locals := 0 }) (va_Pc [.ref h, .int x] (gPure Z G)) (vp_Si (fun r : Int32 => r = sarC stg x)) 0 0 (fun _ => False) := by
  refine Met.ofW (cc := b_ma_stageAround) (maxL := 2) (ret := (some .int)) (by decide) rfl ?_
  intro p e s m args below meth c s₁ B hml hv
  obtain ⟨rfl, hG, hE⟩ := hv
  have hx := B.exec
  have hb := B.bytes
  have hr := B.returns
  have hlocks := B.notSynchronized
  have S : CallFix p m c b_ma_stageAround 2 s _ Gall "PackSeeds$Machine" := ⟨hx, hb, hml, findClass_of_methodNamed B.named, fun w hw => atoms_spec (ws := wd_ma_stageAround :: Gall) B.pre w (List.mem_cons_of_mem _ hw)⟩
  have hl := lv_entry ([.ref h, .int x]) (n := 2) (Nat.le_of_ble_eq_true rfl)
  rw [lg_entry_eq]
  generalize (lg_sl ([.ref h, .int x]) ++ List.replicate (2 - (lg_sl ([.ref h, .int x])).length) Slot.unset).toArray = ls at hl ⊢
  have hl : lv_has ls 2 [(0, .ref h), (1, .int x)] := hl
  refine lv_aload_n hx hb d_ma_stageAround_0 rfl (lv_at hl 0 rfl) ?_
  refine g_get S hE.1 hG hm rfl in_ma 2 (by decide) tw_53 (fun _ h9 => h9) rfl d_ma_stageAround_1 ?_
  refine lv_iconst (v := 1) hx hb d_ma_stageAround_4 (by decide) ?_
  refine lv_icmp_ge (tgt := 12) hx hb d_ma_stageAround_5 (by decide) (fun c5 => ?_) (fun c5 => ?_)
  · refine lv_iload_n hx hb d_ma_stageAround_12 rfl (lv_at hl 1 rfl) ?_
    refine lv_aload_n hx hb d_ma_stageAround_13 rfl (lv_at hl 0 rfl) ?_
    refine g_get S hE.1 hG hm rfl in_ma 2 (by decide) tw_53 (fun _ h9 => h9) rfl d_ma_stageAround_14 ?_
    refine lv_irem hx hb d_ma_stageAround_17 (by intro h0; rw [h0] at c5; exact absurd c5 (by decide)) ?_
    exact W.iret hx hb hr (fun t9 ht9 hW9 => ⟨_, rfl, (by simp [sarC, c5]), ht9⟩) (fun _ h => nomatch h) d_ma_stageAround_18
  · refine lv_iconst (v := 0) hx hb d_ma_stageAround_8 (by decide) ?_
    refine lv_goto (tgt := 18) hx hb d_ma_stageAround_9 (by decide) ?_
    exact W.iret hx hb hr (fun t9 ht9 hW9 => ⟨_, rfl, (by simp [sarC, c5]), ht9⟩) (fun _ h => nomatch h) d_ma_stageAround_18

set_option maxHeartbeats 4000000 in
set_option maxRecDepth 100000 in
theorem c_ps_place (l : Launch) (Z : gZ) (G : gh) (x y : Int32) : Met l y_ps_place (wd_ps_place :: Gall) ({ frames := 0, cells := 0, slots := 0, locals := 0 }) (va_Pc [.int x, .int y] (gPure Z G)) (vp_Si (fun r : Int32 => r = plC x y)) 0 0 (fun _ => False) := by
  refine Met.ofW (cc := b_ps_place) (maxL := 2) (ret := (some .int)) (by decide) rfl ?_
  intro p e s m args below meth c s₁ B hml hv
  obtain ⟨rfl, hG, hE⟩ := hv
  have hx := B.exec
  have hb := B.bytes
  have hr := B.returns
  have hlocks := B.notSynchronized
  have S : CallFix p m c b_ps_place 2 s _ Gall "PackSeeds" := ⟨hx, hb, hml, findClass_of_methodNamed B.named, fun w hw => atoms_spec (ws := wd_ps_place :: Gall) B.pre w (List.mem_cons_of_mem _ hw)⟩
  have hl := lv_entry ([.int x, .int y]) (n := 2) (Nat.le_of_ble_eq_true rfl)
  rw [lg_entry_eq]
  generalize (lg_sl ([.int x, .int y]) ++ List.replicate (2 - (lg_sl ([.int x, .int y])).length) Slot.unset).toArray = ls at hl ⊢
  have hl : lv_has ls 2 [(0, .int x), (1, .int y)] := hl
  refine lv_iconst (v := 1) hx hb d_ps_place_0 (by decide) ?_
  refine lv_iload_n hx hb d_ps_place_1 rfl (lv_at hl 0 rfl) ?_
  refine lv_bipush (v := 8) hx hb d_ps_place_2 (by decide) ?_
  refine lv_imul hx hb d_ps_place_4 ?_
  refine lv_iload_n hx hb d_ps_place_5 rfl (lv_at hl 1 rfl) ?_
  refine lv_iadd hx hb d_ps_place_6 ?_
  refine lv_ishl hx hb d_ps_place_7 ?_
  exact W.iret hx hb hr (fun t9 ht9 hW9 => ⟨_, rfl, rfl, ht9⟩) (fun _ h => nomatch h) d_ps_place_8

set_option maxHeartbeats 4000000 in
set_option maxRecDepth 100000 in
theorem c_ma_row (l : Launch) (Z : gZ) (G : gh) (x y : Int32) : Met l y_ma_row (wd_ma_row :: Gall) ({ frames := 0, cells := 0, slots := 0, locals := 0 }) (va_Pc [.int x, .int y] (gPure Z G)) (vp_Sl (fun r : Int64 => r = rowC x y)) 0 0 (fun _ => False) := by
  refine Met.ofW (cc := b_ma_row) (maxL := 2) (ret := (some .long)) (by decide) rfl ?_
  intro p e s m args below meth c s₁ B hml hv
  obtain ⟨rfl, hG, hE⟩ := hv
  have hx := B.exec
  have hb := B.bytes
  have hr := B.returns
  have hlocks := B.notSynchronized
  have S : CallFix p m c b_ma_row 2 s _ Gall "PackSeeds$Machine" := ⟨hx, hb, hml, findClass_of_methodNamed B.named, fun w hw => atoms_spec (ws := wd_ma_row :: Gall) B.pre w (List.mem_cons_of_mem _ hw)⟩
  have hl := lv_entry ([.int x, .int y]) (n := 2) (Nat.le_of_ble_eq_true rfl)
  rw [lg_entry_eq]
  generalize (lg_sl ([.int x, .int y]) ++ List.replicate (2 - (lg_sl ([.int x, .int y])).length) Slot.unset).toArray = ls at hl ⊢
  have hl : lv_has ls 2 [(0, .int x), (1, .int y)] := hl
  refine lv_iload_n hx hb d_ma_row_0 rfl (lv_at hl 0 rfl) ?_
  refine lv_i2l hx hb d_ma_row_1 rfl ?_
  refine lv_bipush (v := 16) hx hb d_ma_row_2 (by decide) ?_
  refine lv_lshl hx hb d_ma_row_4 rfl ?_
  refine lv_iload_n hx hb d_ma_row_5 rfl (lv_at hl 1 rfl) ?_
  refine lv_i2l hx hb d_ma_row_6 rfl ?_
  refine lv_lor hx hb d_ma_row_7 ?_
  exact W.lret hx hb hr (fun t9 ht9 hW9 => ⟨_, rfl, rfl, ht9⟩) (fun _ h => nomatch h) d_ma_row_8

set_option maxHeartbeats 4000000 in
set_option maxRecDepth 100000 in
theorem c_ma_cellsOf (l : Launch) (Z : gZ) (G : gh) (x : Int64) : Met l y_ma_cellsOf (wd_ma_cellsOf :: Gall) ({ frames := 0, cells := 0, slots := 0, locals := 0 }) (va_Pc [.long x] (gPure Z G)) (vp_Sl (fun r : Int64 => r = celC x)) 0 0 (fun _ => False) := by
  refine Met.ofW (cc := b_ma_cellsOf) (maxL := 2) (ret := (some .long)) (by decide) rfl ?_
  intro p e s m args below meth c s₁ B hml hv
  obtain ⟨rfl, hG, hE⟩ := hv
  have hx := B.exec
  have hb := B.bytes
  have hr := B.returns
  have hlocks := B.notSynchronized
  have S : CallFix p m c b_ma_cellsOf 2 s _ Gall "PackSeeds$Machine" := ⟨hx, hb, hml, findClass_of_methodNamed B.named, fun w hw => atoms_spec (ws := wd_ma_cellsOf :: Gall) B.pre w (List.mem_cons_of_mem _ hw)⟩
  have hl := lv_entry ([.long x]) (n := 2) (Nat.le_of_ble_eq_true rfl)
  rw [lg_entry_eq]
  generalize (lg_sl ([.long x]) ++ List.replicate (2 - (lg_sl ([.long x])).length) Slot.unset).toArray = ls at hl ⊢
  have hl : lv_has ls 2 [(0, .long x)] := hl
  refine lv_lload_n hx hb d_ma_cellsOf_0 rfl (lv_at hl 0 rfl) ?_
  refine lv_bipush (v := 16) hx hb d_ma_cellsOf_1 (by decide) ?_
  refine lv_lshr hx hb d_ma_cellsOf_3 rfl ?_
  exact W.lret hx hb hr (fun t9 ht9 hW9 => ⟨_, rfl, rfl, ht9⟩) (fun _ h => nomatch h) d_ma_cellsOf_4

set_option maxHeartbeats 4000000 in
set_option maxRecDepth 100000 in
theorem c_ma_isTapped (l : Launch) (Z : gZ) (G : gh) (h : Nat) {sh ro : Nat} {stg tp : Int32} (hm : G h = some (.inr (2, [.ref sh, .ref ro, .int stg, .int tp]))) (x : Int32) : Met l y_ma_isTapped (wd_ma_isTapped :: Gall) ({ frames := 0, cells := 0, slots := 0, locals := 0 }) (va_Pc [.ref h, .int x] (gPure Z G)) (vp_Si (fun r : Int32 => r = tapC tp x)) 0 0 (fun _ => False) := by
  refine Met.ofW (cc := b_ma_isTapped) (maxL := 2) (ret := (some .boolean)) (by decide) rfl ?_
  intro p e s m args below meth c s₁ B hml hv
  obtain ⟨rfl, hG, hE⟩ := hv
  have hx := B.exec
  have hb := B.bytes
  have hr := B.returns
  have hlocks := B.notSynchronized
  have S : CallFix p m c b_ma_isTapped 2 s _ Gall "PackSeeds$Machine" := ⟨hx, hb, hml, findClass_of_methodNamed B.named, fun w hw => atoms_spec (ws := wd_ma_isTapped :: Gall) B.pre w (List.mem_cons_of_mem _ hw)⟩
  have hl := lv_entry ([.ref h, .int x]) (n := 2) (Nat.le_of_ble_eq_true rfl)
  rw [lg_entry_eq]
  generalize (lg_sl ([.ref h, .int x]) ++ List.replicate (2 - (lg_sl ([.ref h, .int x])).length) Slot.unset).toArray = ls at hl ⊢
  have hl : lv_has ls 2 [(0, .ref h), (1, .int x)] := hl
  refine lv_aload_n hx hb d_ma_isTapped_0 rfl (lv_at hl 0 rfl) ?_
  refine g_get S hE.1 hG hm rfl in_ma 3 (by decide) tw_55 (fun _ h9 => h9) rfl d_ma_isTapped_1 ?_
  refine lv_iconst (v := 1) hx hb d_ma_isTapped_4 (by decide) ?_
  refine lv_iload_n hx hb d_ma_isTapped_5 rfl (lv_at hl 1 rfl) ?_
  refine lv_ishl hx hb d_ma_isTapped_6 ?_
  refine lv_iand hx hb d_ma_isTapped_7 ?_
  refine lv_if_eq (tgt := 15) hx hb d_ma_isTapped_8 (by decide) (fun c8 => ?_) (fun c8 => ?_)
  · refine lv_iconst (v := 0) hx hb d_ma_isTapped_15 (by decide) ?_
    exact W.zret hx hb hr rfl (fun t9 ht9 hW9 => ⟨_, rfl, (by simp [tapC, c8]), ht9⟩) (fun _ h => nomatch h) d_ma_isTapped_16
  · refine lv_iconst (v := 1) hx hb d_ma_isTapped_11 (by decide) ?_
    refine lv_goto (tgt := 16) hx hb d_ma_isTapped_12 (by decide) ?_
    exact W.zret hx hb hr rfl (fun t9 ht9 hW9 => ⟨_, rfl, (by simp [tapC, c8]), ht9⟩) (fun _ h => nomatch h) d_ma_isTapped_16

set_option maxHeartbeats 4000000 in
set_option maxRecDepth 100000 in
theorem c_pt_careAt (l : Launch) (Z : gZ) (G : gh) (h : Nat) {ca va mk fa sd gn : Int32} (hp : G h = some (.inr (3, [.int ca, .int va, .int mk, .int fa, .int sd, .int gn]))) (x : Int32) : Met l y_pt_careAt (wd_pt_careAt :: Gall) ({ frames := 0, cells := 0, slots := 0, locals := 0 }) (va_Pc [.ref h, .int x] (gPure Z G)) (vp_Si (fun r : Int32 => r = carC ca va x)) 0 0 (fun _ => False) := by
  refine Met.ofW (cc := b_pt_careAt) (maxL := 2) (ret := (some .int)) (by decide) rfl ?_
  intro p e s m args below meth c s₁ B hml hv
  obtain ⟨rfl, hG, hE⟩ := hv
  have hx := B.exec
  have hb := B.bytes
  have hr := B.returns
  have hlocks := B.notSynchronized
  have S : CallFix p m c b_pt_careAt 2 s _ Gall "PackSeeds$Pattern" := ⟨hx, hb, hml, findClass_of_methodNamed B.named, fun w hw => atoms_spec (ws := wd_pt_careAt :: Gall) B.pre w (List.mem_cons_of_mem _ hw)⟩
  have hl := lv_entry ([.ref h, .int x]) (n := 2) (Nat.le_of_ble_eq_true rfl)
  rw [lg_entry_eq]
  generalize (lg_sl ([.ref h, .int x]) ++ List.replicate (2 - (lg_sl ([.ref h, .int x])).length) Slot.unset).toArray = ls at hl ⊢
  have hl : lv_has ls 2 [(0, .ref h), (1, .int x)] := hl
  refine lv_aload_n hx hb d_pt_careAt_0 rfl (lv_at hl 0 rfl) ?_
  refine g_get S hE.1 hG hp rfl in_pt 0 (by decide) tw_218 (fun _ h9 => h9) rfl d_pt_careAt_1 ?_
  refine lv_iload_n hx hb d_pt_careAt_4 rfl (lv_at hl 1 rfl) ?_
  refine lv_iand hx hb d_pt_careAt_5 ?_
  refine lv_if_ne (tgt := 11) hx hb d_pt_careAt_6 (by decide) (fun c6 => ?_) (fun c6 => ?_)
  · refine lv_aload_n hx hb d_pt_careAt_11 rfl (lv_at hl 0 rfl) ?_
    refine g_get S hE.1 hG hp rfl in_pt 1 (by decide) tw_220 (fun _ h9 => h9) rfl d_pt_careAt_12 ?_
    refine lv_iload_n hx hb d_pt_careAt_15 rfl (lv_at hl 1 rfl) ?_
    refine lv_iand hx hb d_pt_careAt_16 ?_
    refine lv_if_eq (tgt := 24) hx hb d_pt_careAt_17 (by decide) (fun c17 => ?_) (fun c17 => ?_)
    · refine lv_iconst (v := 0) hx hb d_pt_careAt_24 (by decide) ?_
      exact W.iret hx hb hr (fun t9 ht9 hW9 => ⟨_, rfl, (by simp_all [carC]), ht9⟩) (fun _ h => nomatch h) d_pt_careAt_25
    · refine lv_iconst (v := 1) hx hb d_pt_careAt_20 (by decide) ?_
      refine lv_goto (tgt := 25) hx hb d_pt_careAt_21 (by decide) ?_
      exact W.iret hx hb hr (fun t9 ht9 hW9 => ⟨_, rfl, (by simp_all [carC]), ht9⟩) (fun _ h => nomatch h) d_pt_careAt_25
  · refine lv_iconst (v := (-1)) hx hb d_pt_careAt_9 (by decide) ?_
    exact W.iret hx hb hr (fun t9 ht9 hW9 => ⟨_, rfl, (by simp_all [carC]), ht9⟩) (fun _ h => nomatch h) d_pt_careAt_10

set_option maxHeartbeats 4000000 in
set_option maxRecDepth 100000 in
theorem c_pt_goesWith (l : Launch) (Z : gZ) (G : gh) (h : Nat) {ca va mk fa sd gn : Int32} (hp : G h = some (.inr (3, [.int ca, .int va, .int mk, .int fa, .int sd, .int gn]))) (h2 : Nat) {ca2 va2 mk2 fa2 sd2 gn2 : Int32} (hp2 : G h2 = some (.inr (3, [.int ca2, .int va2, .int mk2, .int fa2, .int sd2, .int gn2]))) : Met l y_pt_goesWith (wd_pt_goesWith :: Gall) ({ frames := 0, cells := 0, slots := 0, locals := 0 }) (va_Pc [.ref h, .ref h2] (gPure Z G)) (vp_Si (fun r : Int32 => r = gowC ca va ca2 va2)) 0 0 (fun _ => False) := by
  refine Met.ofW (cc := b_pt_goesWith) (maxL := 2) (ret := (some .boolean)) (by decide) rfl ?_
  intro p e s m args below meth c s₁ B hml hv
  obtain ⟨rfl, hG, hE⟩ := hv
  have hx := B.exec
  have hb := B.bytes
  have hr := B.returns
  have hlocks := B.notSynchronized
  have S : CallFix p m c b_pt_goesWith 2 s _ Gall "PackSeeds$Pattern" := ⟨hx, hb, hml, findClass_of_methodNamed B.named, fun w hw => atoms_spec (ws := wd_pt_goesWith :: Gall) B.pre w (List.mem_cons_of_mem _ hw)⟩
  have hl := lv_entry ([.ref h, .ref h2]) (n := 2) (Nat.le_of_ble_eq_true rfl)
  rw [lg_entry_eq]
  generalize (lg_sl ([.ref h, .ref h2]) ++ List.replicate (2 - (lg_sl ([.ref h, .ref h2])).length) Slot.unset).toArray = ls at hl ⊢
  have hl : lv_has ls 2 [(0, .ref h), (1, .ref h2)] := hl
  refine lv_aload_n hx hb d_pt_goesWith_0 rfl (lv_at hl 0 rfl) ?_
  refine g_get S hE.1 hG hp rfl in_pt 0 (by decide) tw_218 (fun _ h9 => h9) rfl d_pt_goesWith_1 ?_
  refine lv_aload_n hx hb d_pt_goesWith_4 rfl (lv_at hl 1 rfl) ?_
  refine g_get S hE.1 hG hp2 rfl in_pt 0 (by decide) tw_218 (fun _ h9 => h9) rfl d_pt_goesWith_5 ?_
  refine lv_iand hx hb d_pt_goesWith_8 ?_
  refine lv_aload_n hx hb d_pt_goesWith_9 rfl (lv_at hl 0 rfl) ?_
  refine g_get S hE.1 hG hp rfl in_pt 1 (by decide) tw_220 (fun _ h9 => h9) rfl d_pt_goesWith_10 ?_
  refine lv_aload_n hx hb d_pt_goesWith_13 rfl (lv_at hl 1 rfl) ?_
  refine g_get S hE.1 hG hp2 rfl in_pt 1 (by decide) tw_220 (fun _ h9 => h9) rfl d_pt_goesWith_14 ?_
  refine lv_ixor hx hb d_pt_goesWith_17 ?_
  refine lv_iand hx hb d_pt_goesWith_18 ?_
  refine lv_if_ne (tgt := 26) hx hb d_pt_goesWith_19 (by decide) (fun c19 => ?_) (fun c19 => ?_)
  · refine lv_iconst (v := 0) hx hb d_pt_goesWith_26 (by decide) ?_
    exact W.zret hx hb hr rfl (fun t9 ht9 hW9 => ⟨_, rfl, (by simp_all [gowC]), ht9⟩) (fun _ h => nomatch h) d_pt_goesWith_27
  · refine lv_iconst (v := 1) hx hb d_pt_goesWith_22 (by decide) ?_
    refine lv_goto (tgt := 27) hx hb d_pt_goesWith_23 (by decide) ?_
    exact W.zret hx hb hr rfl (fun t9 ht9 hW9 => ⟨_, rfl, (by simp_all [gowC]), ht9⟩) (fun _ h => nomatch h) d_pt_goesWith_27
end
section
/-- a pattern's six numbers -/
abbrev Pat : Type := Int32 × Int32 × Int32 × Int32 × Int32 × Int32
def pca (q : Pat) : Int32 := q.1
def pva (q : Pat) : Int32 := q.2.1
def pmk (q : Pat) : Int32 := q.2.2.1
def pfa (q : Pat) : Int32 := q.2.2.2.1
def psd (q : Pat) : Int32 := q.2.2.2.2.1
def pgn (q : Pat) : Int32 := q.2.2.2.2.2
def pfs (q : Pat) : List Value := [.int (pca q), .int (pva q), .int (pmk q), .int (pfa q), .int (psd q), .int (pgn q)]
/-- the pattern with a number, where it is there and not gone -/
def prN (pt : Nat → Option Nat) (pd : Nat → Pat) (k : Nat) : Option Nat := match pt k with
  | none => none
  | some a => if pgn (pd k) = 0 then some a else none
def prI (pt : Nat → Option Nat) (pd : Nat → Pat) (x : Int32) : Option Nat := if x < 0 ∨ ¬ x < nI 24 then none else prN pt pd x.toNatClampNeg
theorem prI_nat (pt : Nat → Option Nat) (pd : Nat → Pat) {k : Nat} (h : k < 24) : prI pt pd (nI k) = prN pt pd k := by
  have h1 : ¬ nI k < 0 := nI_pos (by omega)
  have h2 : nI k < nI 24 := nI_lt h (by omega)
  simp [prI, h1, h2, nI_clamp (show k < 2 ^ 31 by omega)]
theorem prN_some {pt : Nat → Option Nat} {pd : Nat → Pat} {k a : Nat} (h : some a = prN pt pd k) : pt k = some a ∧ pgn (pd k) = 0 := by
  unfold prN at h
  split at h
  · cases h
  · rename_i b hb
    split at h
    · cases h; exact ⟨hb, by assumption⟩
    · cases h
/-- counters that go down -/
def dn : Nat → Int32
  | 0 => -1
  | j + 1 => nI j
theorem dn_pred (k : Nat) : nI k + (-1) = dn k := by
  cases k with
  | zero => rfl
  | succ k => exact pk_m1 k
def dnS (f : Nat → Int32) : Nat → Int32
  | 0 => -1
  | j + 1 => if f j = -1 then dnS f j else f j
def upS (f : Nat → Int32) (k : Nat) : Nat → Int32
  | 0 => -1
  | n + 1 => if f k = -1 then upS f (k + 1) n else f k
def ncC (f : Nat → Int32) (ce E : Nat) : Int32 := if dnS f (ce + 1) = -1 then (if upS f (ce + 1) (E - (ce + 1)) = -1 then 0 else upS f (ce + 1) (E - (ce + 1))) else dnS f (ce + 1)
def cntP (pt : Nat → Option Nat) (pd : Nat → Pat) (n : Nat) : Nat := itr (fun k a => if (prN pt pd k).isSome then a + 1 else a) 0 n
def cntS (pt : Nat → Option Nat) (pd : Nat → Pat) (n : Nat) : Nat := itr (fun k a => if (prN pt pd k).isSome ∧ psd (pd k) ≠ -1 then a + 1 else a) 0 n
def cntC (pt : Nat → Option Nat) (pd : Nat → Pat) (n : Nat) : Int32 := itr (fun k a => if (prN pt pd k).isSome then a + bcnt (pca (pd k)) else a) 0 n
def orF (pt : Nat → Option Nat) (pd : Nat → Pat) (x : Int32) (n : Nat) : Int32 := itr (fun k a => if (prN pt pd k).isSome ∧ nI k ≠ x then a ||| pfa (pd k) else a) 0 n
def fillI (f : Nat → Int32) (k : Nat) (E : Nat) (b : Int32) (n : Nat) : Int32 := itr (fun j a => if ncC f j E = 1 then a ||| plC (nI k) (nI j) else a) b n
def fillC (ca va : Int32) (E : Nat) (n : Nat) : Int32 := itr (fun k a => fillI (fun j => carC ca va (plC (nI k) (nI j))) k E a E) 0 n
def mkI (stg : Int32) (E t : Nat) (st b : Int32) (n : Nat) : Int32 := itr (fun k a => if st &&& ((1 : Int32) <<< (sarC stg (5 * nI k + 1) &&& 31)) = 0 then a else a ||| plC (nI k) (nI E - 1 - nI t)) b n
def mkC (stg tp : Int32) (C E : Nat) (sd : Int32) (n : Nat) : Int32 × Int32 := itr (fun t q => (mkI stg E t q.2 q.1 C, stepC stg tp q.2)) (0, sd) n
def makeC (stg tp : Int32) (C E : Nat) (sd : Int32) : Int32 := (mkC stg tp C E sd E).1
def tkI (stg : Int32) (E t : Nat) (bits st : Int32) (n : Nat) : Int32 := itr (fun k a => if bits &&& plC (nI k) (nI E - 1 - nI t) = 0 then a else a ^^^ ((1 : Int32) <<< (sarC stg (nI k) &&& 31))) st n
def tkC (stg tp : Int32) (C E : Nat) (bits st : Int32) (n : Nat) : Int32 := itr (fun t a => tkI stg E t bits (stepC stg tp a) C) st n
def bitsC (stg tp fk : Int32) (C E : Nat) (q : Pat) : Int32 := if psd q = -1 then (if fk = 1 then pva q ||| (pca q ^^^ (-1)) else if fk = 2 then fillC (pca q) (pva q) E C else pva q) else makeC stg tp C E (psd q)
end
section
set_option maxHeartbeats 4000000 in
set_option maxRecDepth 100000 in
theorem c_ps_presentOrNull (l : Launch) (Z : gZ) (G : gh) (x : Nat) {sh ma pa : Nat} {mad fk : Int32} (hx0 : G x = some (.inr (0, [.ref sh, .ref ma, .ref pa, .int mad, .int fk]))) {pt : Nat → Option Nat} {pd : Nat → Pat} (hpa : G pa = some (.inl (Z.2 3, 24, .inr (.inr (.inr (.inr pt)))))) (hpt : ∀ i a, i < 24 → pt i = some a → G a = some (.inr (3, pfs (pd i)))) (n : Int32) : Met l y_ps_presentOrNull (wd_ps_presentOrNull :: Gall) ({ frames := 0, cells := 0, slots := 0, locals := 0 }) (va_Pc [.ref x, .int n] (gPure Z G)) (va_Sq (fun r : Option Nat => r = prI pt pd n)) 0 0 (fun _ => False) := by
  refine Met.ofW (cc := b_ps_presentOrNull) (maxL := 3) (ret := (some (.object "PackSeeds$Pattern"))) (by decide) rfl ?_
  intro p e s m args below meth c s₁ B hml hv
  obtain ⟨rfl, hG, hE⟩ := hv
  have hx := B.exec
  have hb := B.bytes
  have hr := B.returns
  have hlocks := B.notSynchronized
  have S : CallFix p m c b_ps_presentOrNull 3 s _ Gall "PackSeeds" := ⟨hx, hb, hml, findClass_of_methodNamed B.named, fun w hw => atoms_spec (ws := wd_ps_presentOrNull :: Gall) B.pre w (List.mem_cons_of_mem _ hw)⟩
  have hl := lv_entry ([.ref x, .int n]) (n := 3) (Nat.le_of_ble_eq_true rfl)
  rw [lg_entry_eq]
  generalize (lg_sl ([.ref x, .int n]) ++ List.replicate (3 - (lg_sl ([.ref x, .int n])).length) Slot.unset).toArray = ls at hl ⊢
  have hl : lv_has ls 3 [(0, .ref x), (1, .int n)] := hl
  refine lv_iload_n hx hb d_ps_presentOrNull_0 rfl (lv_at hl 1 rfl) ?_
  refine lv_if_lt (tgt := 13) hx hb d_ps_presentOrNull_1 (by decide) (fun c1 => ?_) (fun c1 => ?_)
  · refine lv_null hx hb d_ps_presentOrNull_13 ?_
    exact W.aret hx hb hr (Or.inl ⟨_, rfl⟩) (va_rf_or (none)) (fun t9 ht9 hW9 => ⟨none, rfl, (by simp [prI, *]), ht9⟩) (fun _ h => nomatch h) d_ps_presentOrNull_14
  · refine lv_iload_n hx hb d_ps_presentOrNull_4 rfl (lv_at hl 1 rfl) ?_
    refine lv_aload_n hx hb d_ps_presentOrNull_5 rfl (lv_at hl 0 rfl) ?_
    refine g_get S hE.1 hG hx0 rfl in_ps 2 (by decide) tw_70 (fun _ h9 => h9) rfl d_ps_presentOrNull_6 ?_
    refine g_alen S hE.1 hG hpa 3 rfl (v := nI 24) rfl d_ps_presentOrNull_9 ?_
    refine lv_icmp_lt (tgt := 15) hx hb d_ps_presentOrNull_10 (by decide) (fun c10 => ?_) (fun c10 => ?_)
    · obtain ⟨j, hj, hnj⟩ : ∃ j : Nat, j < 24 ∧ n = nI j := by
        rcases pk_ix n (n := 24) (by omega) with h9 | h9 | h9
        · exact absurd h9 c1
        · exact absurd c10 (by rw [Int32.lt_iff_toInt_lt, Int32.le_iff_toInt_le] at *; omega)
        · exact h9
      subst hnj
      refine lv_aload_n hx hb d_ps_presentOrNull_15 rfl (lv_at hl 0 rfl) ?_
      refine g_get S hE.1 hG hx0 rfl in_ps 2 (by decide) tw_70 (fun _ h9 => h9) rfl d_ps_presentOrNull_16 ?_
      refine lv_iload_n hx hb d_ps_presentOrNull_19 rfl (lv_at hl 1 rfl) ?_
      refine g_aald S hE.1 hG hpa 3 rfl (vp_in_nI (by omega) (by omega)) d_ps_presentOrNull_20 ?_
      rw [nI_clamp (show j < 2 ^ 31 by omega)]
      cases q21 : pt j with
      | none =>
        refine lv_astore_nN (lv' := [(2, .null), (0, .ref x), (1, .int (nI j))]) hx hb d_ps_presentOrNull_21 rfl hl (by decide) rfl (fun ls hl => ?_)
        refine lv_aload_nN hx hb d_ps_presentOrNull_22 rfl (lv_at hl 0 rfl) ?_
        refine lv_ifnullN (tgt := 33) hx hb d_ps_presentOrNull_23 (by decide) ?_
        refine lv_null hx hb d_ps_presentOrNull_33 ?_
        refine lv_goto (tgt := 38) hx hb d_ps_presentOrNull_34 (by decide) ?_
        exact W.aret hx hb hr (Or.inl ⟨_, rfl⟩) (va_rf_or (none)) (fun t9 ht9 hW9 => ⟨none, rfl, (by rw [prI_nat _ _ hj]; simp_all [prN]), ht9⟩) (fun _ h => nomatch h) d_ps_presentOrNull_38
      | some a21 =>
        refine lv_astore_n (lv' := [(2, .ref a21), (0, .ref x), (1, .int (nI j))]) hx hb d_ps_presentOrNull_21 rfl hl (by decide) rfl (fun ls hl => ?_)
        refine lv_aload_n hx hb d_ps_presentOrNull_22 rfl (lv_at hl 0 rfl) ?_
        refine lv_ifnull hx hb d_ps_presentOrNull_23 ?_
        refine lv_aload_n hx hb d_ps_presentOrNull_26 rfl (lv_at hl 0 rfl) ?_
        refine g_getN S hE.1 hG (hpt j a21 hj q21) rfl in_pt 5 (by decide) (hE.2 _ nw_23) (fun _ h9 => h9) rfl d_ps_presentOrNull_27 ?_
        refine lv_if_eq (tgt := 37) hx hb d_ps_presentOrNull_30 (by decide) (fun c30 => ?_) (fun c30 => ?_)
        · refine lv_aload_n hx hb d_ps_presentOrNull_37 rfl (lv_at hl 0 rfl) ?_
          exact W.aret hx hb hr (Or.inl ⟨_, rfl⟩) (va_rf_or (some a21)) (fun t9 ht9 hW9 => ⟨some a21, rfl, (by rw [prI_nat _ _ hj]; simp_all [prN]), ht9⟩) (fun _ h => nomatch h) d_ps_presentOrNull_38
        · refine lv_null hx hb d_ps_presentOrNull_33 ?_
          refine lv_goto (tgt := 38) hx hb d_ps_presentOrNull_34 (by decide) ?_
          exact W.aret hx hb hr (Or.inl ⟨_, rfl⟩) (va_rf_or (none)) (fun t9 ht9 hW9 => ⟨none, rfl, (by rw [prI_nat _ _ hj]; simp_all [prN]), ht9⟩) (fun _ h => nomatch h) d_ps_presentOrNull_38
    · refine lv_null hx hb d_ps_presentOrNull_13 ?_
      exact W.aret hx hb hr (Or.inl ⟨_, rfl⟩) (va_rf_or (none)) (fun t9 ht9 hW9 => ⟨none, rfl, (by simp [prI, *]), ht9⟩) (fun _ h => nomatch h) d_ps_presentOrNull_14

set_option maxHeartbeats 4000000 in
set_option maxRecDepth 100000 in
theorem c_ps_countPresent (l : Launch) (Z : gZ) (G : gh) (x : Nat) {sh ma pa : Nat} {mad fk : Int32} (hx0 : G x = some (.inr (0, [.ref sh, .ref ma, .ref pa, .int mad, .int fk]))) {pt : Nat → Option Nat} {pd : Nat → Pat} (hpa : G pa = some (.inl (Z.2 3, 24, .inr (.inr (.inr (.inr pt)))))) (hpt : ∀ i a, i < 24 → pt i = some a → G a = some (.inr (3, pfs (pd i)))) : Met l y_ps_countPresent (wd_ps_countPresent :: Gall) ({ frames := 1, cells := 0, slots := 0, locals := 22 }) (va_Pc [.ref x] (gPure Z G)) (vp_Si (fun r : Int32 => r = nI (cntP pt pd 24))) 0 0 (fun _ => False) := by
  refine Met.ofW (cc := b_ps_countPresent) (maxL := 3) (ret := (some .int)) (by decide) rfl ?_
  intro p e s m args below meth c s₁ B hml hv
  obtain ⟨rfl, hG, hE⟩ := hv
  have hx := B.exec
  have hb := B.bytes
  have hr := B.returns
  have hlocks := B.notSynchronized
  have S : CallFix p m c b_ps_countPresent 3 s _ Gall "PackSeeds" := ⟨hx, hb, hml, findClass_of_methodNamed B.named, fun w hw => atoms_spec (ws := wd_ps_countPresent :: Gall) B.pre w (List.mem_cons_of_mem _ hw)⟩
  have hl := lv_entry ([.ref x]) (n := 3) (Nat.le_of_ble_eq_true rfl)
  rw [lg_entry_eq]
  generalize (lg_sl ([.ref x]) ++ List.replicate (3 - (lg_sl ([.ref x])).length) Slot.unset).toArray = ls at hl ⊢
  have hl : lv_has ls 3 [(0, .ref x)] := hl
  refine lv_iconst (v := nI 0) hx hb d_ps_countPresent_0 (by decide) ?_
  refine lv_istore_n (lv' := [(1, .int (nI 0)), (0, .ref x)]) hx hb d_ps_countPresent_1 rfl hl (by decide) rfl (fun ls hl => ?_)
  refine lv_iconst (v := nI 0) hx hb d_ps_countPresent_2 (by decide) ?_
  refine lv_istore_n (lv' := [(2, .int (nI 0)), (1, .int (nI 0)), (0, .ref x)]) hx hb d_ps_countPresent_3 rfl hl (by decide) rfl (fun ls hl => ?_)
  refine g_ind (V := Nat × Nat) (fun (i, n) ls => (i ≤ 24 ∧ n = cntP pt pd i) ∧ lv_has ls 3 [(0, .ref x), (1, .int (nI n)), (2, .int (nI i))]) (fun (i, n) => 24 - i) ?_ (0, 0) _ ⟨⟨Nat.zero_le _, rfl⟩, lv_sub hl [2, 1, 0] rfl⟩
  intro v ls hI ih4
  obtain ⟨i, n⟩ := v
  obtain ⟨⟨hi, hn⟩, hl⟩ := hI
  refine lv_iload_n hx hb d_ps_countPresent_4 rfl (lv_at hl 2 rfl) ?_
  refine lv_aload_n hx hb d_ps_countPresent_5 rfl (lv_at hl 0 rfl) ?_
  refine g_get S hE.1 hG hx0 rfl in_ps 2 (by decide) tw_70 (fun _ h9 => h9) rfl d_ps_countPresent_6 ?_
  refine g_alen S hE.1 hG hpa 3 rfl (v := nI 24) rfl d_ps_countPresent_9 ?_
  refine g_ge (tgt := 30) hx hb d_ps_countPresent_10 (by decide) (by omega) (by omega) (fun c10 => ?_) (fun c10 => ?_)
  · refine lv_iload_n hx hb d_ps_countPresent_30 rfl (lv_at hl 1 rfl) ?_
    exact W.iret hx hb hr (fun t9 ht9 hW9 => ⟨_, rfl, (by rw [hn, show i = 24 by omega]), ht9⟩) (fun _ h => nomatch h) d_ps_countPresent_31
  · refine lv_aload_n hx hb d_ps_countPresent_13 rfl (lv_at hl 0 rfl) ?_
    refine lv_iload_n hx hb d_ps_countPresent_14 rfl (lv_at hl 2 rfl) ?_
    refine g_retq (g_runV (As := [.int (nI i)]) (rest := []) S lk_ps_65 k_ps_presentOrNull (c_ps_presentOrNull l Z G x hx0 hpa hpt (nI i)) ⟨rfl, rfl⟩ ⟨Nat.le_of_ble_eq_true rfl, Nat.le_of_ble_eq_true rfl⟩ (gPreV hG hE hx0 rfl) rfl hl.1 rfl (Nat.le_of_ble_eq_true rfl) d_ps_countPresent_15 ⟨Nat.le_of_ble_eq_true rfl, Nat.le_of_ble_eq_true rfl⟩) (fun r15 h15 => ?_)
    cases r15 with
    | none =>
      refine lv_ifnullN (tgt := 24) hx hb d_ps_countPresent_18 (by decide) ?_
      refine lv_iinc (v := nI (i + 1)) (lv' := [(2, .int (nI (i + 1))), (0, .ref x), (1, .int (nI n))]) hx hb d_ps_countPresent_24 hl (k := 2) rfl (show nI i + 1 = _ from nI_1 i) (by decide) rfl (fun ls hl => ?_)
      refine lv_goto (tgt := 4) hx hb d_ps_countPresent_27 (by decide) ?_
      exact ih4 ((i + 1), n) _ ⟨⟨by omega, by subst hn; simp only [cntP, itr_s]; first | (rw [prI_nat _ _ (by omega)] at h15; simp [← h15]) | simp [← h15]⟩, lv_sub hl [1, 2, 0] rfl⟩ (by first | omega | (simp only []; omega))
    | some a15 =>
      rw [prI_nat _ _ (by omega)] at h15
      obtain ⟨p15, g15⟩ := prN_some h15
      refine lv_ifnull hx hb d_ps_countPresent_18 ?_
      refine lv_iinc (v := nI (n + 1)) (lv' := [(1, .int (nI (n + 1))), (0, .ref x), (2, .int (nI i))]) hx hb d_ps_countPresent_21 hl (k := 1) rfl (show nI n + 1 = _ from nI_1 n) (by decide) rfl (fun ls hl => ?_)
      refine lv_iinc (v := nI (i + 1)) (lv' := [(2, .int (nI (i + 1))), (1, .int (nI (n + 1))), (0, .ref x)]) hx hb d_ps_countPresent_24 hl (k := 2) rfl (show nI i + 1 = _ from nI_1 i) (by decide) rfl (fun ls hl => ?_)
      refine lv_goto (tgt := 4) hx hb d_ps_countPresent_27 (by decide) ?_
      exact ih4 ((i + 1), (n + 1)) _ ⟨⟨by omega, by subst hn; simp only [cntP, itr_s]; first | (rw [prI_nat _ _ (by omega)] at h15; simp [← h15]) | simp [← h15]⟩, lv_sub hl [2, 1, 0] rfl⟩ (by first | omega | (simp only []; omega))

set_option maxHeartbeats 4000000 in
set_option maxRecDepth 100000 in
theorem c_ps_countSeeded (l : Launch) (Z : gZ) (G : gh) (x : Nat) {sh ma pa : Nat} {mad fk : Int32} (hx0 : G x = some (.inr (0, [.ref sh, .ref ma, .ref pa, .int mad, .int fk]))) {pt : Nat → Option Nat} {pd : Nat → Pat} (hpa : G pa = some (.inl (Z.2 3, 24, .inr (.inr (.inr (.inr pt)))))) (hpt : ∀ i a, i < 24 → pt i = some a → G a = some (.inr (3, pfs (pd i)))) : Met l y_ps_countSeeded (wd_ps_countSeeded :: Gall) ({ frames := 1, cells := 0, slots := 0, locals := 22 }) (va_Pc [.ref x] (gPure Z G)) (vp_Si (fun r : Int32 => r = nI (cntS pt pd 24))) 0 0 (fun _ => False) := by
  refine Met.ofW (cc := b_ps_countSeeded) (maxL := 4) (ret := (some .int)) (by decide) rfl ?_
  intro p e s m args below meth c s₁ B hml hv
  obtain ⟨rfl, hG, hE⟩ := hv
  have hx := B.exec
  have hb := B.bytes
  have hr := B.returns
  have hlocks := B.notSynchronized
  have S : CallFix p m c b_ps_countSeeded 4 s _ Gall "PackSeeds" := ⟨hx, hb, hml, findClass_of_methodNamed B.named, fun w hw => atoms_spec (ws := wd_ps_countSeeded :: Gall) B.pre w (List.mem_cons_of_mem _ hw)⟩
  have hl := lv_entry ([.ref x]) (n := 4) (Nat.le_of_ble_eq_true rfl)
  rw [lg_entry_eq]
  generalize (lg_sl ([.ref x]) ++ List.replicate (4 - (lg_sl ([.ref x])).length) Slot.unset).toArray = ls at hl ⊢
  have hl : lv_has ls 4 [(0, .ref x)] := hl
  refine lv_iconst (v := nI 0) hx hb d_ps_countSeeded_0 (by decide) ?_
  refine lv_istore_n (lv' := [(1, .int (nI 0)), (0, .ref x)]) hx hb d_ps_countSeeded_1 rfl hl (by decide) rfl (fun ls hl => ?_)
  refine lv_iconst (v := nI 0) hx hb d_ps_countSeeded_2 (by decide) ?_
  refine lv_istore_n (lv' := [(2, .int (nI 0)), (1, .int (nI 0)), (0, .ref x)]) hx hb d_ps_countSeeded_3 rfl hl (by decide) rfl (fun ls hl => ?_)
  refine g_ind (V := Nat × Nat) (fun (i, n) ls => (i ≤ 24 ∧ n = cntS pt pd i) ∧ lv_has ls 4 [(0, .ref x), (1, .int (nI n)), (2, .int (nI i))]) (fun (i, n) => 24 - i) ?_ (0, 0) _ ⟨⟨Nat.zero_le _, rfl⟩, lv_sub hl [2, 1, 0] rfl⟩
  intro v ls hI ih4
  obtain ⟨i, n⟩ := v
  obtain ⟨⟨hi, hn⟩, hl⟩ := hI
  refine lv_iload_n hx hb d_ps_countSeeded_4 rfl (lv_at hl 2 rfl) ?_
  refine lv_aload_n hx hb d_ps_countSeeded_5 rfl (lv_at hl 0 rfl) ?_
  refine g_get S hE.1 hG hx0 rfl in_ps 2 (by decide) tw_70 (fun _ h9 => h9) rfl d_ps_countSeeded_6 ?_
  refine g_alen S hE.1 hG hpa 3 rfl (v := nI 24) rfl d_ps_countSeeded_9 ?_
  refine g_ge (tgt := 40) hx hb d_ps_countSeeded_10 (by decide) (by omega) (by omega) (fun c10 => ?_) (fun c10 => ?_)
  · refine lv_iload_n hx hb d_ps_countSeeded_40 rfl (lv_at hl 1 rfl) ?_
    exact W.iret hx hb hr (fun t9 ht9 hW9 => ⟨_, rfl, (by rw [hn, show i = 24 by omega]), ht9⟩) (fun _ h => nomatch h) d_ps_countSeeded_41
  · refine lv_aload_n hx hb d_ps_countSeeded_13 rfl (lv_at hl 0 rfl) ?_
    refine lv_iload_n hx hb d_ps_countSeeded_14 rfl (lv_at hl 2 rfl) ?_
    refine g_retq (g_runV (As := [.int (nI i)]) (rest := []) S lk_ps_65 k_ps_presentOrNull (c_ps_presentOrNull l Z G x hx0 hpa hpt (nI i)) ⟨rfl, rfl⟩ ⟨Nat.le_of_ble_eq_true rfl, Nat.le_of_ble_eq_true rfl⟩ (gPreV hG hE hx0 rfl) rfl hl.1 rfl (Nat.le_of_ble_eq_true rfl) d_ps_countSeeded_15 ⟨Nat.le_of_ble_eq_true rfl, Nat.le_of_ble_eq_true rfl⟩) (fun r15 h15 => ?_)
    cases r15 with
    | none =>
      refine lv_astore_nN (lv' := [(3, .null), (0, .ref x), (1, .int (nI n)), (2, .int (nI i))]) hx hb d_ps_countSeeded_18 rfl hl (by decide) rfl (fun ls hl => ?_)
      refine lv_aload_nN hx hb d_ps_countSeeded_19 rfl (lv_at hl 0 rfl) ?_
      refine lv_ifnullN (tgt := 34) hx hb d_ps_countSeeded_20 (by decide) ?_
      refine lv_iinc (v := nI (i + 1)) (lv' := [(2, .int (nI (i + 1))), (3, .null), (0, .ref x), (1, .int (nI n))]) hx hb d_ps_countSeeded_34 hl (k := 3) rfl (show nI i + 1 = _ from nI_1 i) (by decide) rfl (fun ls hl => ?_)
      refine lv_goto (tgt := 4) hx hb d_ps_countSeeded_37 (by decide) ?_
      exact ih4 ((i + 1), n) _ ⟨⟨by omega, by subst hn; simp only [cntS, itr_s]; first | (rw [prI_nat _ _ (by omega)] at h15; simp [← h15]; done) | simp [← h15, c28]⟩, lv_sub hl [2, 3, 0] rfl⟩ (by first | omega | (simp only []; omega))
    | some a15 =>
      rw [prI_nat _ _ (by omega)] at h15
      obtain ⟨p15, g15⟩ := prN_some h15
      refine lv_astore_n (lv' := [(3, .ref a15), (0, .ref x), (1, .int (nI n)), (2, .int (nI i))]) hx hb d_ps_countSeeded_18 rfl hl (by decide) rfl (fun ls hl => ?_)
      refine lv_aload_n hx hb d_ps_countSeeded_19 rfl (lv_at hl 0 rfl) ?_
      refine lv_ifnull hx hb d_ps_countSeeded_20 ?_
      refine lv_aload_n hx hb d_ps_countSeeded_23 rfl (lv_at hl 0 rfl) ?_
      refine g_getN S hE.1 hG (hpt i a15 (by omega) p15) rfl in_pt 4 (by decide) (hE.2 _ nw_22) (fun _ h9 => h9) rfl d_ps_countSeeded_24 ?_
      refine lv_iconst (v := (-1)) hx hb d_ps_countSeeded_27 (by decide) ?_
      refine lv_icmp_eq (tgt := 34) hx hb d_ps_countSeeded_28 (by decide) (fun c28 => ?_) (fun c28 => ?_)
      · refine lv_iinc (v := nI (i + 1)) (lv' := [(2, .int (nI (i + 1))), (3, .ref a15), (0, .ref x), (1, .int (nI n))]) hx hb d_ps_countSeeded_34 hl (k := 3) rfl (show nI i + 1 = _ from nI_1 i) (by decide) rfl (fun ls hl => ?_)
        refine lv_goto (tgt := 4) hx hb d_ps_countSeeded_37 (by decide) ?_
        exact ih4 ((i + 1), n) _ ⟨⟨by omega, by subst hn; simp only [cntS, itr_s]; first | (rw [prI_nat _ _ (by omega)] at h15; simp [← h15]; done) | simp [← h15, c28]⟩, lv_sub hl [2, 3, 0] rfl⟩ (by first | omega | (simp only []; omega))
      · refine lv_iinc (v := nI (n + 1)) (lv' := [(1, .int (nI (n + 1))), (3, .ref a15), (0, .ref x), (2, .int (nI i))]) hx hb d_ps_countSeeded_31 hl (k := 2) rfl (show nI n + 1 = _ from nI_1 n) (by decide) rfl (fun ls hl => ?_)
        refine lv_iinc (v := nI (i + 1)) (lv' := [(2, .int (nI (i + 1))), (1, .int (nI (n + 1))), (3, .ref a15), (0, .ref x)]) hx hb d_ps_countSeeded_34 hl (k := 3) rfl (show nI i + 1 = _ from nI_1 i) (by decide) rfl (fun ls hl => ?_)
        refine lv_goto (tgt := 4) hx hb d_ps_countSeeded_37 (by decide) ?_
        exact ih4 ((i + 1), (n + 1)) _ ⟨⟨by omega, by subst hn; simp only [cntS, itr_s]; first | (rw [prI_nat _ _ (by omega)] at h15; simp [← h15]; done) | simp [← h15, c28]⟩, lv_sub hl [3, 1, 0] rfl⟩ (by first | omega | (simp only []; omega))

set_option maxHeartbeats 4000000 in
set_option maxRecDepth 100000 in
theorem c_ps_countCared (l : Launch) (Z : gZ) (G : gh) (x : Nat) {sh ma pa : Nat} {mad fk : Int32} (hx0 : G x = some (.inr (0, [.ref sh, .ref ma, .ref pa, .int mad, .int fk]))) {pt : Nat → Option Nat} {pd : Nat → Pat} (hpa : G pa = some (.inl (Z.2 3, 24, .inr (.inr (.inr (.inr pt)))))) (hpt : ∀ i a, i < 24 → pt i = some a → G a = some (.inr (3, pfs (pd i)))) : Met l y_ps_countCared (wd_ps_countCared :: Gall) ({ frames := 1, cells := 0, slots := 0, locals := 22 }) (va_Pc [.ref x] (gPure Z G)) (vp_Si (fun r : Int32 => r = cntC pt pd 24)) 0 0 (fun _ => False) := by
  refine Met.ofW (cc := b_ps_countCared) (maxL := 4) (ret := (some .int)) (by decide) rfl ?_
  intro p e s m args below meth c s₁ B hml hv
  obtain ⟨rfl, hG, hE⟩ := hv
  have hx := B.exec
  have hb := B.bytes
  have hr := B.returns
  have hlocks := B.notSynchronized
  have S : CallFix p m c b_ps_countCared 4 s _ Gall "PackSeeds" := ⟨hx, hb, hml, findClass_of_methodNamed B.named, fun w hw => atoms_spec (ws := wd_ps_countCared :: Gall) B.pre w (List.mem_cons_of_mem _ hw)⟩
  have hl := lv_entry ([.ref x]) (n := 4) (Nat.le_of_ble_eq_true rfl)
  rw [lg_entry_eq]
  generalize (lg_sl ([.ref x]) ++ List.replicate (4 - (lg_sl ([.ref x])).length) Slot.unset).toArray = ls at hl ⊢
  have hl : lv_has ls 4 [(0, .ref x)] := hl
  refine lv_iconst (v := 0) hx hb d_ps_countCared_0 (by decide) ?_
  refine lv_istore_n (lv' := [(1, .int 0), (0, .ref x)]) hx hb d_ps_countCared_1 rfl hl (by decide) rfl (fun ls hl => ?_)
  refine lv_iconst (v := nI 0) hx hb d_ps_countCared_2 (by decide) ?_
  refine lv_istore_n (lv' := [(2, .int (nI 0)), (1, .int 0), (0, .ref x)]) hx hb d_ps_countCared_3 rfl hl (by decide) rfl (fun ls hl => ?_)
  refine g_ind (V := Nat × Int32) (fun (i, n) ls => (i ≤ 24 ∧ n = cntC pt pd i) ∧ lv_has ls 4 [(0, .ref x), (1, .int n), (2, .int (nI i))]) (fun (i, n) => 24 - i) ?_ (0, 0) _ ⟨⟨Nat.zero_le _, rfl⟩, lv_sub hl [2, 1, 0] rfl⟩
  intro v ls hI ih4
  obtain ⟨i, n⟩ := v
  obtain ⟨⟨hi, hn⟩, hl⟩ := hI
  refine lv_iload_n hx hb d_ps_countCared_4 rfl (lv_at hl 2 rfl) ?_
  refine lv_aload_n hx hb d_ps_countCared_5 rfl (lv_at hl 0 rfl) ?_
  refine g_get S hE.1 hG hx0 rfl in_ps 2 (by decide) tw_70 (fun _ h9 => h9) rfl d_ps_countCared_6 ?_
  refine g_alen S hE.1 hG hpa 3 rfl (v := nI 24) rfl d_ps_countCared_9 ?_
  refine g_ge (tgt := 39) hx hb d_ps_countCared_10 (by decide) (by omega) (by omega) (fun c10 => ?_) (fun c10 => ?_)
  · refine lv_iload_n hx hb d_ps_countCared_39 rfl (lv_at hl 1 rfl) ?_
    exact W.iret hx hb hr (fun t9 ht9 hW9 => ⟨_, rfl, (by rw [hn, show i = 24 by omega]), ht9⟩) (fun _ h => nomatch h) d_ps_countCared_40
  · refine lv_aload_n hx hb d_ps_countCared_13 rfl (lv_at hl 0 rfl) ?_
    refine lv_iload_n hx hb d_ps_countCared_14 rfl (lv_at hl 2 rfl) ?_
    refine g_retq (g_runV (As := [.int (nI i)]) (rest := []) S lk_ps_65 k_ps_presentOrNull (c_ps_presentOrNull l Z G x hx0 hpa hpt (nI i)) ⟨rfl, rfl⟩ ⟨Nat.le_of_ble_eq_true rfl, Nat.le_of_ble_eq_true rfl⟩ (gPreV hG hE hx0 rfl) rfl hl.1 rfl (Nat.le_of_ble_eq_true rfl) d_ps_countCared_15 ⟨Nat.le_of_ble_eq_true rfl, Nat.le_of_ble_eq_true rfl⟩) (fun r15 h15 => ?_)
    cases r15 with
    | none =>
      refine lv_astore_nN (lv' := [(3, .null), (0, .ref x), (1, .int n), (2, .int (nI i))]) hx hb d_ps_countCared_18 rfl hl (by decide) rfl (fun ls hl => ?_)
      refine lv_aload_nN hx hb d_ps_countCared_19 rfl (lv_at hl 0 rfl) ?_
      refine lv_ifnullN (tgt := 33) hx hb d_ps_countCared_20 (by decide) ?_
      refine lv_iinc (v := nI (i + 1)) (lv' := [(2, .int (nI (i + 1))), (3, .null), (0, .ref x), (1, .int n)]) hx hb d_ps_countCared_33 hl (k := 3) rfl (show nI i + 1 = _ from nI_1 i) (by decide) rfl (fun ls hl => ?_)
      refine lv_goto (tgt := 4) hx hb d_ps_countCared_36 (by decide) ?_
      exact ih4 ((i + 1), n) _ ⟨⟨by omega, by subst_vars; simp only [cntC, itr_s]; first | (rw [prI_nat _ _ (by omega)] at h15; simp [← h15]; done) | simp [← h15]⟩, lv_sub hl [2, 3, 0] rfl⟩ (by first | omega | (simp only []; omega))
    | some a15 =>
      rw [prI_nat _ _ (by omega)] at h15
      obtain ⟨p15, g15⟩ := prN_some h15
      refine lv_astore_n (lv' := [(3, .ref a15), (0, .ref x), (1, .int n), (2, .int (nI i))]) hx hb d_ps_countCared_18 rfl hl (by decide) rfl (fun ls hl => ?_)
      refine lv_aload_n hx hb d_ps_countCared_19 rfl (lv_at hl 0 rfl) ?_
      refine lv_ifnull hx hb d_ps_countCared_20 ?_
      refine lv_iload_n hx hb d_ps_countCared_23 rfl (lv_at hl 2 rfl) ?_
      refine lv_aload_n hx hb d_ps_countCared_24 rfl (lv_at hl 0 rfl) ?_
      refine g_getN S hE.1 hG (hpt i a15 (by omega) p15) rfl in_pt 0 (by decide) (hE.2 _ nw_18) (fun _ h9 => h9) rfl d_ps_countCared_25 ?_
      refine g_reti (g_runS (As := [.int (pca (pd i))]) (rest := [.int n]) S lk_ps_177 k_in_bitCount (c_in_bitCount l Z G (pca (pd i))) ⟨rfl, rfl⟩ ⟨Nat.le_of_ble_eq_true rfl, Nat.le_of_ble_eq_true rfl⟩ (gPreS hG hE) rfl hl.1 rfl (Nat.le_of_ble_eq_true rfl) d_ps_countCared_28 ⟨Nat.le_of_ble_eq_true rfl, Nat.le_of_ble_eq_true rfl⟩) (fun r28 h28 => ?_)
      refine lv_iadd hx hb d_ps_countCared_31 ?_
      refine lv_topi (fun x32 e32 => ?_)
      refine lv_istore_n (lv' := [(1, .int x32), (3, .ref a15), (0, .ref x), (2, .int (nI i))]) hx hb d_ps_countCared_32 rfl hl (by decide) rfl (fun ls hl => ?_)
      refine lv_iinc (v := nI (i + 1)) (lv' := [(2, .int (nI (i + 1))), (1, .int x32), (3, .ref a15), (0, .ref x)]) hx hb d_ps_countCared_33 hl (k := 3) rfl (show nI i + 1 = _ from nI_1 i) (by decide) rfl (fun ls hl => ?_)
      refine lv_goto (tgt := 4) hx hb d_ps_countCared_36 (by decide) ?_
      exact ih4 ((i + 1), x32) _ ⟨⟨by omega, by subst_vars; simp only [cntC, itr_s]; first | (rw [prI_nat _ _ (by omega)] at h15; simp [← h15]; done) | simp [← h15]⟩, lv_sub hl [3, 1, 0] rfl⟩ (by first | omega | (simp only []; omega))

set_option maxHeartbeats 4000000 in
set_option maxRecDepth 100000 in
theorem c_ps_faultsOfAllBut (l : Launch) (Z : gZ) (G : gh) (x : Nat) {sh ma pa : Nat} {mad fk : Int32} (hx0 : G x = some (.inr (0, [.ref sh, .ref ma, .ref pa, .int mad, .int fk]))) {pt : Nat → Option Nat} {pd : Nat → Pat} (hpa : G pa = some (.inl (Z.2 3, 24, .inr (.inr (.inr (.inr pt)))))) (hpt : ∀ i a, i < 24 → pt i = some a → G a = some (.inr (3, pfs (pd i)))) (y : Int32) : Met l y_ps_faultsOfAllBut (wd_ps_faultsOfAllBut :: Gall) ({ frames := 1, cells := 0, slots := 0, locals := 22 }) (va_Pc [.ref x, .int y] (gPure Z G)) (vp_Si (fun r : Int32 => r = orF pt pd y 24)) 0 0 (fun _ => False) := by
  refine Met.ofW (cc := b_ps_faultsOfAllBut) (maxL := 5) (ret := (some .int)) (by decide) rfl ?_
  intro p e s m args below meth c s₁ B hml hv
  obtain ⟨rfl, hG, hE⟩ := hv
  have hx := B.exec
  have hb := B.bytes
  have hr := B.returns
  have hlocks := B.notSynchronized
  have S : CallFix p m c b_ps_faultsOfAllBut 5 s _ Gall "PackSeeds" := ⟨hx, hb, hml, findClass_of_methodNamed B.named, fun w hw => atoms_spec (ws := wd_ps_faultsOfAllBut :: Gall) B.pre w (List.mem_cons_of_mem _ hw)⟩
  have hl := lv_entry ([.ref x, .int y]) (n := 5) (Nat.le_of_ble_eq_true rfl)
  rw [lg_entry_eq]
  generalize (lg_sl ([.ref x, .int y]) ++ List.replicate (5 - (lg_sl ([.ref x, .int y])).length) Slot.unset).toArray = ls at hl ⊢
  have hl : lv_has ls 5 [(0, .ref x), (1, .int y)] := hl
  refine lv_iconst (v := 0) hx hb d_ps_faultsOfAllBut_0 (by decide) ?_
  refine lv_istore_n (lv' := [(2, .int 0), (0, .ref x), (1, .int y)]) hx hb d_ps_faultsOfAllBut_1 rfl hl (by decide) rfl (fun ls hl => ?_)
  refine lv_iconst (v := nI 0) hx hb d_ps_faultsOfAllBut_2 (by decide) ?_
  refine lv_istore_n (lv' := [(3, .int (nI 0)), (2, .int 0), (0, .ref x), (1, .int y)]) hx hb d_ps_faultsOfAllBut_3 rfl hl (by decide) rfl (fun ls hl => ?_)
  refine g_ind (V := Nat × Int32) (fun (i, n) ls => (i ≤ 24 ∧ n = orF pt pd y i) ∧ lv_has ls 5 [(0, .ref x), (1, .int y), (2, .int n), (3, .int (nI i))]) (fun (i, n) => 24 - i) ?_ (0, 0) _ ⟨⟨Nat.zero_le _, rfl⟩, lv_sub hl [2, 3, 1, 0] rfl⟩
  intro v ls hI ih4
  obtain ⟨i, n⟩ := v
  obtain ⟨⟨hi, hn⟩, hl⟩ := hI
  refine lv_iload_n hx hb d_ps_faultsOfAllBut_4 rfl (lv_at hl 3 rfl) ?_
  refine lv_aload_n hx hb d_ps_faultsOfAllBut_5 rfl (lv_at hl 0 rfl) ?_
  refine g_get S hE.1 hG hx0 rfl in_ps 2 (by decide) tw_70 (fun _ h9 => h9) rfl d_ps_faultsOfAllBut_6 ?_
  refine g_alen S hE.1 hG hpa 3 rfl (v := nI 24) rfl d_ps_faultsOfAllBut_9 ?_
  refine g_ge (tgt := 44) hx hb d_ps_faultsOfAllBut_10 (by decide) (by omega) (by omega) (fun c10 => ?_) (fun c10 => ?_)
  · refine lv_iload_n hx hb d_ps_faultsOfAllBut_44 rfl (lv_at hl 2 rfl) ?_
    exact W.iret hx hb hr (fun t9 ht9 hW9 => ⟨_, rfl, (by rw [hn, show i = 24 by omega]), ht9⟩) (fun _ h => nomatch h) d_ps_faultsOfAllBut_45
  · refine lv_aload_n hx hb d_ps_faultsOfAllBut_13 rfl (lv_at hl 0 rfl) ?_
    refine lv_iload_n hx hb d_ps_faultsOfAllBut_14 rfl (lv_at hl 3 rfl) ?_
    refine g_retq (g_runV (As := [.int (nI i)]) (rest := []) S lk_ps_65 k_ps_presentOrNull (c_ps_presentOrNull l Z G x hx0 hpa hpt (nI i)) ⟨rfl, rfl⟩ ⟨Nat.le_of_ble_eq_true rfl, Nat.le_of_ble_eq_true rfl⟩ (gPreV hG hE hx0 rfl) rfl hl.1 rfl (Nat.le_of_ble_eq_true rfl) d_ps_faultsOfAllBut_15 ⟨Nat.le_of_ble_eq_true rfl, Nat.le_of_ble_eq_true rfl⟩) (fun r15 h15 => ?_)
    cases r15 with
    | none =>
      refine lv_astoreN (lv' := [(4, .null), (0, .ref x), (1, .int y), (2, .int n), (3, .int (nI i))]) hx hb d_ps_faultsOfAllBut_18 hl (by decide) rfl (fun ls hl => ?_)
      refine lv_aloadN hx hb d_ps_faultsOfAllBut_20 (lv_at hl 0 rfl) ?_
      refine lv_ifnullN (tgt := 38) hx hb d_ps_faultsOfAllBut_22 (by decide) ?_
      refine lv_iinc (v := nI (i + 1)) (lv' := [(3, .int (nI (i + 1))), (4, .null), (0, .ref x), (1, .int y), (2, .int n)]) hx hb d_ps_faultsOfAllBut_38 hl (k := 4) rfl (show nI i + 1 = _ from nI_1 i) (by decide) rfl (fun ls hl => ?_)
      refine lv_goto (tgt := 4) hx hb d_ps_faultsOfAllBut_41 (by decide) ?_
      exact ih4 ((i + 1), n) _ ⟨⟨by omega, by subst_vars; simp only [orF, itr_s]; first | (rw [prI_nat _ _ (by omega)] at h15; simp [← h15]; done) | simp [← h15, c27]; done | simp [← h15]⟩, lv_sub hl [2, 3, 4, 0] rfl⟩ (by first | omega | (simp only []; omega))
    | some a15 =>
      rw [prI_nat _ _ (by omega)] at h15
      obtain ⟨p15, g15⟩ := prN_some h15
      refine lv_astore (lv' := [(4, .ref a15), (0, .ref x), (1, .int y), (2, .int n), (3, .int (nI i))]) hx hb d_ps_faultsOfAllBut_18 hl (by decide) rfl (fun ls hl => ?_)
      refine lv_aload hx hb d_ps_faultsOfAllBut_20 (lv_at hl 0 rfl) ?_
      refine lv_ifnull hx hb d_ps_faultsOfAllBut_22 ?_
      refine lv_iload_n hx hb d_ps_faultsOfAllBut_25 rfl (lv_at hl 4 rfl) ?_
      refine lv_iload_n hx hb d_ps_faultsOfAllBut_26 rfl (lv_at hl 2 rfl) ?_
      refine lv_icmp_eq (tgt := 38) hx hb d_ps_faultsOfAllBut_27 (by decide) (fun c27 => ?_) (fun c27 => ?_)
      · refine lv_iinc (v := nI (i + 1)) (lv' := [(3, .int (nI (i + 1))), (4, .ref a15), (0, .ref x), (1, .int y), (2, .int n)]) hx hb d_ps_faultsOfAllBut_38 hl (k := 4) rfl (show nI i + 1 = _ from nI_1 i) (by decide) rfl (fun ls hl => ?_)
        refine lv_goto (tgt := 4) hx hb d_ps_faultsOfAllBut_41 (by decide) ?_
        exact ih4 ((i + 1), n) _ ⟨⟨by omega, by subst_vars; simp only [orF, itr_s]; first | (rw [prI_nat _ _ (by omega)] at h15; simp [← h15]; done) | simp [← h15, c27]; done | simp [← h15]⟩, lv_sub hl [2, 3, 4, 0] rfl⟩ (by first | omega | (simp only []; omega))
      · refine lv_iload_n hx hb d_ps_faultsOfAllBut_30 rfl (lv_at hl 3 rfl) ?_
        refine lv_aload hx hb d_ps_faultsOfAllBut_31 (lv_at hl 0 rfl) ?_
        refine g_getN S hE.1 hG (hpt i a15 (by omega) p15) rfl in_pt 3 (by decide) (hE.2 _ nw_21) (fun _ h9 => h9) rfl d_ps_faultsOfAllBut_33 ?_
        refine lv_ior hx hb d_ps_faultsOfAllBut_36 ?_
        refine lv_topi (fun x37 e37 => ?_)
        refine lv_istore_n (lv' := [(2, .int x37), (4, .ref a15), (0, .ref x), (1, .int y), (3, .int (nI i))]) hx hb d_ps_faultsOfAllBut_37 rfl hl (by decide) rfl (fun ls hl => ?_)
        refine lv_iinc (v := nI (i + 1)) (lv' := [(3, .int (nI (i + 1))), (2, .int x37), (4, .ref a15), (0, .ref x), (1, .int y)]) hx hb d_ps_faultsOfAllBut_38 hl (k := 4) rfl (show nI i + 1 = _ from nI_1 i) (by decide) rfl (fun ls hl => ?_)
        refine lv_goto (tgt := 4) hx hb d_ps_faultsOfAllBut_41 (by decide) ?_
        exact ih4 ((i + 1), x37) _ ⟨⟨by omega, by subst_vars; simp only [orF, itr_s]; first | (rw [prI_nat _ _ (by omega)] at h15; simp [← h15]; done) | simp [← h15, c27]; done | simp [← h15]⟩, lv_sub hl [3, 4, 1, 0] rfl⟩ (by first | omega | (simp only []; omega))

set_option maxHeartbeats 4000000 in
set_option maxRecDepth 100000 in
theorem c_ma_make (l : Launch) (Z : gZ) (G : gh) (h : Nat) {sh ro : Nat} {stg tp : Int32} (hm : G h = some (.inr (2, [.ref sh, .ref ro, .int stg, .int tp]))) {C E : Nat} (hs : G sh = some (.inr (1, [.int (nI C), .int (nI E)]))) (hC : C ≤ 4) (hE8 : E ≤ 8) (sd : Int32) : Met l y_ma_make (wd_ma_make :: Gall) ({ frames := 2, cells := 0, slots := 0, locals := 42 }) (va_Pc [.ref h, .int sd] (gPure Z G)) (vp_Si (fun r : Int32 => r = makeC stg tp C E sd)) 0 0 (fun _ => False) := by
  refine Met.ofW (cc := b_ma_make) (maxL := 6) (ret := (some .int)) (by decide) rfl ?_
  intro p e s m args below meth c s₁ B hml hv
  obtain ⟨rfl, hG, hE⟩ := hv
  have hx := B.exec
  have hb := B.bytes
  have hr := B.returns
  have hlocks := B.notSynchronized
  have S : CallFix p m c b_ma_make 6 s _ Gall "PackSeeds$Machine" := ⟨hx, hb, hml, findClass_of_methodNamed B.named, fun w hw => atoms_spec (ws := wd_ma_make :: Gall) B.pre w (List.mem_cons_of_mem _ hw)⟩
  have hl := lv_entry ([.ref h, .int sd]) (n := 6) (Nat.le_of_ble_eq_true rfl)
  rw [lg_entry_eq]
  generalize (lg_sl ([.ref h, .int sd]) ++ List.replicate (6 - (lg_sl ([.ref h, .int sd])).length) Slot.unset).toArray = ls at hl ⊢
  have hl : lv_has ls 6 [(0, .ref h), (1, .int sd)] := hl
  refine lv_iconst (v := 0) hx hb d_ma_make_0 (by decide) ?_
  refine lv_istore_n (lv' := [(2, .int 0), (0, .ref h), (1, .int sd)]) hx hb d_ma_make_1 rfl hl (by decide) rfl (fun ls hl => ?_)
  refine lv_iload_n hx hb d_ma_make_2 rfl (lv_at hl 2 rfl) ?_
  refine lv_istore_n (lv' := [(3, .int sd), (2, .int 0), (0, .ref h), (1, .int sd)]) hx hb d_ma_make_3 rfl hl (by decide) rfl (fun ls hl => ?_)
  refine lv_iconst (v := nI 0) hx hb d_ma_make_4 (by decide) ?_
  refine lv_istore (lv' := [(4, .int (nI 0)), (3, .int sd), (2, .int 0), (0, .ref h), (1, .int sd)]) hx hb d_ma_make_5 hl (by decide) rfl (fun ls hl => ?_)
  refine g_ind (V := Nat × Int32 × Int32) (fun (t, b, st) ls => (t ≤ E ∧ b = (mkC stg tp C E sd t).1 ∧ st = (mkC stg tp C E sd t).2) ∧ lv_has ls 6 [(0, .ref h), (1, .int sd), (2, .int b), (3, .int st), (4, .int (nI t))]) (fun (t, b, st) => E - t) ?_ (0, 0, sd) _ ⟨⟨Nat.zero_le _, rfl, rfl⟩, lv_sub hl [3, 4, 2, 1, 0] rfl⟩
  intro v ls hI ih7
  obtain ⟨t, b, st⟩ := v
  obtain ⟨⟨ht, hb1, hs1⟩, hl⟩ := hI
  refine lv_iload hx hb d_ma_make_7 (lv_at hl 4 rfl) ?_
  refine lv_aload_n hx hb d_ma_make_9 rfl (lv_at hl 0 rfl) ?_
  refine g_get S hE.1 hG hm rfl in_ma 0 (by decide) tw_51 (fun _ h9 => h9) rfl d_ma_make_10 ?_
  refine g_getN S hE.1 hG hs rfl in_sh 1 (by decide) (hE.2 _ nw_3) (fun _ h9 => h9) rfl d_ma_make_13 ?_
  refine g_ge (tgt := 89) hx hb d_ma_make_16 (by decide) (by omega) (by omega) (fun c16 => ?_) (fun c16 => ?_)
  · refine lv_iload_n hx hb d_ma_make_89 rfl (lv_at hl 2 rfl) ?_
    exact W.iret hx hb hr (fun t9 ht9 hW9 => ⟨_, rfl, (by rw [hb1, show t = E by omega]; rfl), ht9⟩) (fun _ h => nomatch h) d_ma_make_90
  · refine lv_iconst (v := nI 0) hx hb d_ma_make_19 (by decide) ?_
    refine lv_istore (lv' := [(5, .int (nI 0)), (0, .ref h), (1, .int sd), (2, .int b), (3, .int st), (4, .int (nI t))]) hx hb d_ma_make_20 hl (by decide) rfl (fun ls hl => ?_)
    refine g_ind (V := Nat × Int32) (fun (k, a) ls => (k ≤ C ∧ a = mkI stg E t st b k) ∧ lv_has ls 6 [(0, .ref h), (1, .int sd), (2, .int a), (3, .int st), (4, .int (nI t)), (5, .int (nI k))]) (fun (k, a) => C - k) ?_ (0, b) _ ⟨⟨Nat.zero_le _, rfl⟩, lv_sub hl [1, 2, 3, 4, 5, 0] rfl⟩
    intro v ls hI ih22
    obtain ⟨k, a⟩ := v
    obtain ⟨⟨hk, ha⟩, hl⟩ := hI
    refine lv_iload hx hb d_ma_make_22 (lv_at hl 5 rfl) ?_
    refine lv_aload_n hx hb d_ma_make_24 rfl (lv_at hl 0 rfl) ?_
    refine g_get S hE.1 hG hm rfl in_ma 0 (by decide) tw_51 (fun _ h9 => h9) rfl d_ma_make_25 ?_
    refine g_getN S hE.1 hG hs rfl in_sh 0 (by decide) (hE.2 _ nw_1) (fun _ h9 => h9) rfl d_ma_make_28 ?_
    refine g_ge (tgt := 77) hx hb d_ma_make_31 (by decide) (by omega) (by omega) (fun c31 => ?_) (fun c31 => ?_)
    · refine lv_aload_n hx hb d_ma_make_77 rfl (lv_at hl 0 rfl) ?_
      refine lv_iload_n hx hb d_ma_make_78 rfl (lv_at hl 3 rfl) ?_
      refine g_reti (g_runV (As := [.int st]) (rest := []) S lk_ma_47 k_ma_step (c_ma_step l Z G h hm st) ⟨rfl, rfl⟩ ⟨Nat.le_of_ble_eq_true rfl, Nat.le_of_ble_eq_true rfl⟩ (gPreV hG hE hm rfl) rfl hl.1 rfl (Nat.le_of_ble_eq_true rfl) d_ma_make_79 ⟨Nat.le_of_ble_eq_true rfl, Nat.le_of_ble_eq_true rfl⟩) (fun r79 h79 => ?_)
      refine lv_istore_n (lv' := [(3, .int r79), (0, .ref h), (1, .int sd), (2, .int a), (4, .int (nI t)), (5, .int (nI k))]) hx hb d_ma_make_82 rfl hl (by decide) rfl (fun ls hl => ?_)
      refine lv_iinc (v := nI (t + 1)) (lv' := [(4, .int (nI (t + 1))), (3, .int r79), (0, .ref h), (1, .int sd), (2, .int a), (5, .int (nI k))]) hx hb d_ma_make_83 hl (k := 4) rfl (show nI t + 1 = _ from nI_1 t) (by decide) rfl (fun ls hl => ?_)
      refine lv_goto (tgt := 7) hx hb d_ma_make_86 (by decide) ?_
      exact ih7 ((t + 1), a, r79) _ ⟨⟨by omega, by subst_vars; rw [show k = C by omega]; rfl, by subst_vars; rfl⟩, lv_sub hl [2, 3, 4, 1, 0] rfl⟩ (by first | omega | (simp only []; omega))
    · refine lv_iload_n hx hb d_ma_make_34 rfl (lv_at hl 3 rfl) ?_
      refine lv_iconst (v := 1) hx hb d_ma_make_35 (by decide) ?_
      refine lv_aload_n hx hb d_ma_make_36 rfl (lv_at hl 0 rfl) ?_
      refine lv_iconst (v := 5) hx hb d_ma_make_37 (by decide) ?_
      refine lv_iload hx hb d_ma_make_38 (lv_at hl 5 rfl) ?_
      refine lv_imul hx hb d_ma_make_40 ?_
      refine lv_iconst (v := 1) hx hb d_ma_make_41 (by decide) ?_
      refine lv_iadd hx hb d_ma_make_42 ?_
      refine g_reti (g_runV (As := [.int ((5 * (nI k)) + 1)]) (rest := [.int 1, .int st]) S lk_ma_40 k_ma_stageAround (c_ma_stageAround l Z G h hm ((5 * (nI k)) + 1)) ⟨rfl, rfl⟩ ⟨Nat.le_of_ble_eq_true rfl, Nat.le_of_ble_eq_true rfl⟩ (gPreV hG hE hm rfl) rfl hl.1 rfl (Nat.le_of_ble_eq_true rfl) d_ma_make_43 ⟨Nat.le_of_ble_eq_true rfl, Nat.le_of_ble_eq_true rfl⟩) (fun r43 h43 => ?_)
      refine lv_ishl hx hb d_ma_make_46 ?_
      refine lv_iand hx hb d_ma_make_47 ?_
      refine lv_if_eq (tgt := 71) hx hb d_ma_make_48 (by decide) (fun c48 => ?_) (fun c48 => ?_)
      · refine lv_iinc (v := nI (k + 1)) (lv' := [(5, .int (nI (k + 1))), (0, .ref h), (1, .int sd), (2, .int a), (3, .int st), (4, .int (nI t))]) hx hb d_ma_make_71 hl (k := 5) rfl (show nI k + 1 = _ from nI_1 k) (by decide) rfl (fun ls hl => ?_)
        refine lv_goto (tgt := 22) hx hb d_ma_make_74 (by decide) ?_
        exact ih22 ((k + 1), a) _ ⟨⟨by omega, by subst_vars; simp only [mkI, itr_s]; rw [← mkI]; simp [*]⟩, lv_sub hl [1, 2, 3, 4, 5, 0] rfl⟩ (by first | omega | (simp only []; omega))
      · refine lv_iload_n hx hb d_ma_make_51 rfl (lv_at hl 2 rfl) ?_
        refine lv_iload hx hb d_ma_make_52 (lv_at hl 5 rfl) ?_
        refine lv_aload_n hx hb d_ma_make_54 rfl (lv_at hl 0 rfl) ?_
        refine g_get S hE.1 hG hm rfl in_ma 0 (by decide) tw_51 (fun _ h9 => h9) rfl d_ma_make_55 ?_
        refine g_getN S hE.1 hG hs rfl in_sh 1 (by decide) (hE.2 _ nw_3) (fun _ h9 => h9) rfl d_ma_make_58 ?_
        refine lv_iconst (v := 1) hx hb d_ma_make_61 (by decide) ?_
        refine lv_isub hx hb d_ma_make_62 ?_
        refine lv_iload hx hb d_ma_make_63 (lv_at hl 4 rfl) ?_
        refine lv_isub hx hb d_ma_make_65 ?_
        refine g_reti (g_runSN (As := [.int (nI k), .int (((nI E) - 1) - (nI t))]) (rest := [.int a]) S hE lk_ma_43 k_ps_place (c_ps_place l Z G (nI k) (((nI E) - 1) - (nI t))) ⟨rfl, rfl⟩ ⟨Nat.le_of_ble_eq_true rfl, Nat.le_of_ble_eq_true rfl⟩ (gPreS hG hE) rfl hl.1 rfl (Nat.le_of_ble_eq_true rfl) d_ma_make_66 ⟨Nat.le_of_ble_eq_true rfl, Nat.le_of_ble_eq_true rfl⟩) (fun r66 h66 => ?_)
        refine lv_ior hx hb d_ma_make_69 ?_
        refine lv_topi (fun x70 e70 => ?_)
        refine lv_istore_n (lv' := [(2, .int x70), (0, .ref h), (1, .int sd), (3, .int st), (4, .int (nI t)), (5, .int (nI k))]) hx hb d_ma_make_70 rfl hl (by decide) rfl (fun ls hl => ?_)
        refine lv_iinc (v := nI (k + 1)) (lv' := [(5, .int (nI (k + 1))), (2, .int x70), (0, .ref h), (1, .int sd), (3, .int st), (4, .int (nI t))]) hx hb d_ma_make_71 hl (k := 5) rfl (show nI k + 1 = _ from nI_1 k) (by decide) rfl (fun ls hl => ?_)
        refine lv_goto (tgt := 22) hx hb d_ma_make_74 (by decide) ?_
        exact ih22 ((k + 1), x70) _ ⟨⟨by omega, by subst_vars; simp only [mkI, itr_s]; rw [← mkI]; simp [*]⟩, lv_sub hl [2, 3, 1, 4, 5, 0] rfl⟩ (by first | omega | (simp only []; omega))

set_option maxHeartbeats 4000000 in
set_option maxRecDepth 100000 in
theorem c_ma_takeIn (l : Launch) (Z : gZ) (G : gh) (h : Nat) {sh ro : Nat} {stg tp : Int32} (hm : G h = some (.inr (2, [.ref sh, .ref ro, .int stg, .int tp]))) {C E : Nat} (hs : G sh = some (.inr (1, [.int (nI C), .int (nI E)]))) (hC : C ≤ 4) (hE8 : E ≤ 8) (x bits : Int32) : Met l y_ma_takeIn (wd_ma_takeIn :: Gall) ({ frames := 2, cells := 0, slots := 0, locals := 42 }) (va_Pc [.ref h, .int x, .int bits] (gPure Z G)) (vp_Si (fun r : Int32 => r = tkC stg tp C E bits x E)) 0 0 (fun _ => False) := by
  refine Met.ofW (cc := b_ma_takeIn) (maxL := 6) (ret := (some .int)) (by decide) rfl ?_
  intro p e s m args below meth c s₁ B hml hv
  obtain ⟨rfl, hG, hE⟩ := hv
  have hx := B.exec
  have hb := B.bytes
  have hr := B.returns
  have hlocks := B.notSynchronized
  have S : CallFix p m c b_ma_takeIn 6 s _ Gall "PackSeeds$Machine" := ⟨hx, hb, hml, findClass_of_methodNamed B.named, fun w hw => atoms_spec (ws := wd_ma_takeIn :: Gall) B.pre w (List.mem_cons_of_mem _ hw)⟩
  have hl := lv_entry ([.ref h, .int x, .int bits]) (n := 6) (Nat.le_of_ble_eq_true rfl)
  rw [lg_entry_eq]
  generalize (lg_sl ([.ref h, .int x, .int bits]) ++ List.replicate (6 - (lg_sl ([.ref h, .int x, .int bits])).length) Slot.unset).toArray = ls at hl ⊢
  have hl : lv_has ls 6 [(0, .ref h), (1, .int x), (2, .int bits)] := hl
  refine lv_iload_n hx hb d_ma_takeIn_0 rfl (lv_at hl 1 rfl) ?_
  refine lv_istore_n (lv' := [(3, .int x), (0, .ref h), (1, .int x), (2, .int bits)]) hx hb d_ma_takeIn_1 rfl hl (by decide) rfl (fun ls hl => ?_)
  refine lv_iconst (v := nI 0) hx hb d_ma_takeIn_2 (by decide) ?_
  refine lv_istore (lv' := [(4, .int (nI 0)), (3, .int x), (0, .ref h), (1, .int x), (2, .int bits)]) hx hb d_ma_takeIn_3 hl (by decide) rfl (fun ls hl => ?_)
  refine g_ind (V := Nat × Int32) (fun (t, st) ls => (t ≤ E ∧ st = tkC stg tp C E bits x t) ∧ lv_has ls 6 [(0, .ref h), (1, .int x), (2, .int bits), (3, .int st), (4, .int (nI t))]) (fun (t, st) => E - t) ?_ (0, x) _ ⟨⟨Nat.zero_le _, rfl⟩, lv_sub hl [2, 3, 4, 1, 0] rfl⟩
  intro v ls hI ih5
  obtain ⟨t, st⟩ := v
  obtain ⟨⟨ht, hs1⟩, hl⟩ := hI
  refine lv_iload hx hb d_ma_takeIn_5 (lv_at hl 4 rfl) ?_
  refine lv_aload_n hx hb d_ma_takeIn_7 rfl (lv_at hl 0 rfl) ?_
  refine g_get S hE.1 hG hm rfl in_ma 0 (by decide) tw_51 (fun _ h9 => h9) rfl d_ma_takeIn_8 ?_
  refine g_getN S hE.1 hG hs rfl in_sh 1 (by decide) (hE.2 _ nw_3) (fun _ h9 => h9) rfl d_ma_takeIn_11 ?_
  refine g_ge (tgt := 83) hx hb d_ma_takeIn_14 (by decide) (by omega) (by omega) (fun c14 => ?_) (fun c14 => ?_)
  · refine lv_iload_n hx hb d_ma_takeIn_83 rfl (lv_at hl 3 rfl) ?_
    exact W.iret hx hb hr (fun t9 ht9 hW9 => ⟨_, rfl, (by rw [hs1, show t = E by omega]), ht9⟩) (fun _ h => nomatch h) d_ma_takeIn_84
  · refine lv_aload_n hx hb d_ma_takeIn_17 rfl (lv_at hl 0 rfl) ?_
    refine lv_iload_n hx hb d_ma_takeIn_18 rfl (lv_at hl 3 rfl) ?_
    refine g_reti (g_runV (As := [.int st]) (rest := []) S lk_ma_47 k_ma_step (c_ma_step l Z G h hm st) ⟨rfl, rfl⟩ ⟨Nat.le_of_ble_eq_true rfl, Nat.le_of_ble_eq_true rfl⟩ (gPreV hG hE hm rfl) rfl hl.1 rfl (Nat.le_of_ble_eq_true rfl) d_ma_takeIn_19 ⟨Nat.le_of_ble_eq_true rfl, Nat.le_of_ble_eq_true rfl⟩) (fun r19 h19 => ?_)
    refine lv_istore_n (lv' := [(3, .int r19), (0, .ref h), (1, .int x), (2, .int bits), (4, .int (nI t))]) hx hb d_ma_takeIn_22 rfl hl (by decide) rfl (fun ls hl => ?_)
    refine lv_iconst (v := nI 0) hx hb d_ma_takeIn_23 (by decide) ?_
    refine lv_istore (lv' := [(5, .int (nI 0)), (3, .int r19), (0, .ref h), (1, .int x), (2, .int bits), (4, .int (nI t))]) hx hb d_ma_takeIn_24 hl (by decide) rfl (fun ls hl => ?_)
    refine g_ind (V := Nat × Int32) (fun (k, a) ls => (k ≤ C ∧ a = tkI stg E t bits (stepC stg tp st) k) ∧ lv_has ls 6 [(0, .ref h), (1, .int x), (2, .int bits), (3, .int a), (4, .int (nI t)), (5, .int (nI k))]) (fun (k, a) => C - k) ?_ (0, r19) _ ⟨⟨Nat.zero_le _, h19⟩, lv_sub hl [2, 3, 4, 1, 5, 0] rfl⟩
    intro v ls hI ih26
    obtain ⟨k, a⟩ := v
    obtain ⟨⟨hk, ha⟩, hl⟩ := hI
    refine lv_iload hx hb d_ma_takeIn_26 (lv_at hl 5 rfl) ?_
    refine lv_aload_n hx hb d_ma_takeIn_28 rfl (lv_at hl 0 rfl) ?_
    refine g_get S hE.1 hG hm rfl in_ma 0 (by decide) tw_51 (fun _ h9 => h9) rfl d_ma_takeIn_29 ?_
    refine g_getN S hE.1 hG hs rfl in_sh 0 (by decide) (hE.2 _ nw_1) (fun _ h9 => h9) rfl d_ma_takeIn_32 ?_
    refine g_ge (tgt := 77) hx hb d_ma_takeIn_35 (by decide) (by omega) (by omega) (fun c35 => ?_) (fun c35 => ?_)
    · refine lv_iinc (v := nI (t + 1)) (lv' := [(4, .int (nI (t + 1))), (0, .ref h), (1, .int x), (2, .int bits), (3, .int a), (5, .int (nI k))]) hx hb d_ma_takeIn_77 hl (k := 4) rfl (show nI t + 1 = _ from nI_1 t) (by decide) rfl (fun ls hl => ?_)
      refine lv_goto (tgt := 5) hx hb d_ma_takeIn_80 (by decide) ?_
      exact ih5 ((t + 1), a) _ ⟨⟨by omega, by subst_vars; rw [show k = C by omega]; rfl⟩, lv_sub hl [1, 2, 3, 4, 0] rfl⟩ (by first | omega | (simp only []; omega))
    · refine lv_iload_n hx hb d_ma_takeIn_38 rfl (lv_at hl 2 rfl) ?_
      refine lv_iload hx hb d_ma_takeIn_39 (lv_at hl 5 rfl) ?_
      refine lv_aload_n hx hb d_ma_takeIn_41 rfl (lv_at hl 0 rfl) ?_
      refine g_get S hE.1 hG hm rfl in_ma 0 (by decide) tw_51 (fun _ h9 => h9) rfl d_ma_takeIn_42 ?_
      refine g_getN S hE.1 hG hs rfl in_sh 1 (by decide) (hE.2 _ nw_3) (fun _ h9 => h9) rfl d_ma_takeIn_45 ?_
      refine lv_iconst (v := 1) hx hb d_ma_takeIn_48 (by decide) ?_
      refine lv_isub hx hb d_ma_takeIn_49 ?_
      refine lv_iload hx hb d_ma_takeIn_50 (lv_at hl 4 rfl) ?_
      refine lv_isub hx hb d_ma_takeIn_52 ?_
      refine g_reti (g_runSN (As := [.int (nI k), .int (((nI E) - 1) - (nI t))]) (rest := [.int bits]) S hE lk_ma_43 k_ps_place (c_ps_place l Z G (nI k) (((nI E) - 1) - (nI t))) ⟨rfl, rfl⟩ ⟨Nat.le_of_ble_eq_true rfl, Nat.le_of_ble_eq_true rfl⟩ (gPreS hG hE) rfl hl.1 rfl (Nat.le_of_ble_eq_true rfl) d_ma_takeIn_53 ⟨Nat.le_of_ble_eq_true rfl, Nat.le_of_ble_eq_true rfl⟩) (fun r53 h53 => ?_)
      refine lv_iand hx hb d_ma_takeIn_56 ?_
      refine lv_if_eq (tgt := 71) hx hb d_ma_takeIn_57 (by decide) (fun c57 => ?_) (fun c57 => ?_)
      · refine lv_iinc (v := nI (k + 1)) (lv' := [(5, .int (nI (k + 1))), (0, .ref h), (1, .int x), (2, .int bits), (3, .int a), (4, .int (nI t))]) hx hb d_ma_takeIn_71 hl (k := 5) rfl (show nI k + 1 = _ from nI_1 k) (by decide) rfl (fun ls hl => ?_)
        refine lv_goto (tgt := 26) hx hb d_ma_takeIn_74 (by decide) ?_
        exact ih26 ((k + 1), a) _ ⟨⟨by omega, by subst_vars; simp only [tkI, itr_s]; rw [← tkI]; simp [*]⟩, lv_sub hl [1, 2, 3, 4, 5, 0] rfl⟩ (by first | omega | (simp only []; omega))
      · refine lv_iload_n hx hb d_ma_takeIn_60 rfl (lv_at hl 3 rfl) ?_
        refine lv_iconst (v := 1) hx hb d_ma_takeIn_61 (by decide) ?_
        refine lv_aload_n hx hb d_ma_takeIn_62 rfl (lv_at hl 0 rfl) ?_
        refine lv_iload hx hb d_ma_takeIn_63 (lv_at hl 5 rfl) ?_
        refine g_reti (g_runV (As := [.int (nI k)]) (rest := [.int 1, .int a]) S lk_ma_40 k_ma_stageAround (c_ma_stageAround l Z G h hm (nI k)) ⟨rfl, rfl⟩ ⟨Nat.le_of_ble_eq_true rfl, Nat.le_of_ble_eq_true rfl⟩ (gPreV hG hE hm rfl) rfl hl.1 rfl (Nat.le_of_ble_eq_true rfl) d_ma_takeIn_65 ⟨Nat.le_of_ble_eq_true rfl, Nat.le_of_ble_eq_true rfl⟩) (fun r65 h65 => ?_)
        refine lv_ishl hx hb d_ma_takeIn_68 ?_
        refine lv_ixor hx hb d_ma_takeIn_69 ?_
        refine lv_topi (fun x70 e70 => ?_)
        refine lv_istore_n (lv' := [(3, .int x70), (0, .ref h), (1, .int x), (2, .int bits), (4, .int (nI t)), (5, .int (nI k))]) hx hb d_ma_takeIn_70 rfl hl (by decide) rfl (fun ls hl => ?_)
        refine lv_iinc (v := nI (k + 1)) (lv' := [(5, .int (nI (k + 1))), (3, .int x70), (0, .ref h), (1, .int x), (2, .int bits), (4, .int (nI t))]) hx hb d_ma_takeIn_71 hl (k := 5) rfl (show nI k + 1 = _ from nI_1 k) (by decide) rfl (fun ls hl => ?_)
        refine lv_goto (tgt := 26) hx hb d_ma_takeIn_74 (by decide) ?_
        exact ih26 ((k + 1), x70) _ ⟨⟨by omega, by subst_vars; simp only [tkI, itr_s]; rw [← tkI]; simp [*]⟩, lv_sub hl [2, 3, 4, 1, 5, 0] rfl⟩ (by first | omega | (simp only []; omega))
end
section
theorem shl1 : ∀ D, D < 31 → (1 : Int32) <<< (nI D &&& 31) = nI (2 ^ D) := by decide +kernel
theorem lng1 : ∀ D, D < 31 → ((1 : Int32) <<< (nI D &&& 31)) - 1 = nI (2 ^ D - 1) := by decide +kernel
/-- the machine's states from stage 0 alone -/
def sqC (stg tp : Int32) (n : Nat) : Int32 := itr (fun _ a => stepC stg tp a) 1 n
def lcC (stg tp : Int32) (N : Nat) : Prop := (∀ j, 1 ≤ j → j < N → sqC stg tp j ≠ 1) ∧ sqC stg tp N = 1
def lbit (r : Int64) (i : Nat) : Int64 := (r >>> ((nI i).toInt64 &&& 63)) &&& 1
def redC (rw : Nat → Int64) : Nat → Int64 → Int64
  | 0, r => r
  | k + 1, r => redC rw k (if lbit r (k + 16) = 0 then r else r ^^^ rw (k + 16))
def keepC (row : Int64) (rw : Nat → Int64) : Nat → (Nat → Int64)
  | 0 => rw
  | k + 1 => if lbit row (k + 16) = 0 then keepC row rw k else vp_updL rw (k + 16) row
def gdC : Nat → Int64 → Int64 → Int64
  | 0, g, _ => g
  | n + 1, g, b => if b = 0 then g else gdC n b (g - g / b * b)
def gcdC (a b : Int64) : Int64 := if gdC 128 a b < 1 then 1 else gdC 128 a b
theorem ncC_dn {f : Nat → Int32} {ce E : Nat} {v : Int32} (h : dnS f (ce + 1) = v) (hv : ¬ v = -1) : v = ncC f ce E := by
  subst h; simp [ncC, hv]
theorem ncC_up {f : Nat → Int32} {ce E : Nat} {v : Int32} (h : dnS f (ce + 1) = -1) (h2 : upS f (ce + 1) (E - (ce + 1)) = v) (hv : ¬ v = -1) : v = ncC f ce E := by
  subst h2; simp [ncC, hv, h]
theorem ncC_no {f : Nat → Int32} {ce E : Nat} (h : dnS f (ce + 1) = -1) (h2 : upS f (ce + 1) (E - (ce + 1)) = -1) : 0 = ncC f ce E := by
  simp [ncC, h, h2]
theorem upS_s (f : Nat → Int32) {k E : Nat} (h : k < E) : upS f k (E - k) = if f k = -1 then upS f (k + 1) (E - (k + 1)) else f k := by
  obtain ⟨n, hn⟩ : ∃ n, E - k = n + 1 := ⟨E - k - 1, by omega⟩
  rw [hn, show E - (k + 1) = n by omega]
  rfl
end
section
set_option maxHeartbeats 4000000 in
set_option maxRecDepth 100000 in
theorem c_ps_nearestCare (l : Launch) (Z : gZ) (G : gh) (x : Nat) {sh ma pa : Nat} {mad fk : Int32} (hx0 : G x = some (.inr (0, [.ref sh, .ref ma, .ref pa, .int mad, .int fk]))) {C E : Nat} (hs : G sh = some (.inr (1, [.int (nI C), .int (nI E)]))) (hC : C ≤ 4) (hE8 : E ≤ 8) (it : Nat) {ca va mk fa sd gn : Int32} (hp : G it = some (.inr (3, [.int ca, .int va, .int mk, .int fa, .int sd, .int gn]))) (k j : Nat) (hj : j < E) : Met l y_ps_nearestCare (wd_ps_nearestCare :: Gall) ({ frames := 1, cells := 0, slots := 0, locals := 21 }) (va_Pc [.ref x, .ref it, .int (nI k), .int (nI j)] (gPure Z G)) (vp_Si (fun r : Int32 => r = ncC (fun q => carC ca va (plC (nI k) (nI q))) j E)) 0 0 (fun _ => False) := by
  refine Met.ofW (cc := b_ps_nearestCare) (maxL := 6) (ret := (some .int)) (by decide) rfl ?_
  intro p e s m args below meth c s₁ B hml hv
  obtain ⟨rfl, hG, hE⟩ := hv
  have hx := B.exec
  have hb := B.bytes
  have hr := B.returns
  have hlocks := B.notSynchronized
  have S : CallFix p m c b_ps_nearestCare 6 s _ Gall "PackSeeds" := ⟨hx, hb, hml, findClass_of_methodNamed B.named, fun w hw => atoms_spec (ws := wd_ps_nearestCare :: Gall) B.pre w (List.mem_cons_of_mem _ hw)⟩
  have hl := lv_entry ([.ref x, .ref it, .int (nI k), .int (nI j)]) (n := 6) (Nat.le_of_ble_eq_true rfl)
  rw [lg_entry_eq]
  generalize (lg_sl ([.ref x, .ref it, .int (nI k), .int (nI j)]) ++ List.replicate (6 - (lg_sl ([.ref x, .ref it, .int (nI k), .int (nI j)])).length) Slot.unset).toArray = ls at hl ⊢
  have hl : lv_has ls 6 [(0, .ref x), (1, .ref it), (2, .int (nI k)), (3, .int (nI j))] := hl
  refine lv_iload_n hx hb d_ps_nearestCare_0 rfl (lv_at hl 3 rfl) ?_
  refine lv_istore (lv' := [(4, .int (nI j)), (0, .ref x), (1, .ref it), (2, .int (nI k)), (3, .int (nI j))]) hx hb d_ps_nearestCare_1 hl (by decide) rfl (fun ls hl => ?_)
  refine g_ind (V := Nat) (fun i ls => (i ≤ j + 1 ∧ dnS (fun q => carC ca va (plC (nI k) (nI q))) (j + 1) = dnS (fun q => carC ca va (plC (nI k) (nI q))) i) ∧ lv_has ls 6 [(0, .ref x), (1, .ref it), (2, .int (nI k)), (3, .int (nI j)), (4, .int (dn i))]) (fun i => i) ?_ (j + 1) _ ⟨⟨Nat.le_refl _, rfl⟩, lv_sub hl [1, 2, 3, 4, 0] rfl⟩
  intro v ls hI ih3
  obtain ⟨i, hvv⟩ : ∃ y, y = v := ⟨_, rfl⟩
  subst hvv
  obtain ⟨⟨hi, hv⟩, hl⟩ := hI
  cases i with
  | zero =>
    have hl : lv_has ls 6 [(0, .ref x), (1, .ref it), (2, .int (nI k)), (3, .int (nI j)), (4, .int (-1))] := hl
    refine lv_iload hx hb d_ps_nearestCare_3 (lv_at hl 4 rfl) ?_
    refine lv_if_lt (tgt := 35) hx hb d_ps_nearestCare_5 (by decide) (fun c5 => ?_) (fun c5 => absurd c5 (by decide))
    refine lv_iload_n hx hb d_ps_nearestCare_35 rfl (lv_at hl 3 rfl) ?_
    refine lv_iconst (v := 1) hx hb d_ps_nearestCare_36 (by decide) ?_
    refine lv_iadd hx hb d_ps_nearestCare_37 ?_
    refine g_topi (y := nI (j + 1)) (nI_1 j) ?_
    refine lv_istore (lv' := [(4, .int (nI (j + 1))), (0, .ref x), (1, .ref it), (2, .int (nI k)), (3, .int (nI j))]) hx hb d_ps_nearestCare_38 hl (by decide) rfl (fun ls hl => ?_)
    refine g_ind (V := Nat) (fun i2 ls => (i2 ≤ E ∧ upS (fun q => carC ca va (plC (nI k) (nI q))) (j + 1) (E - (j + 1)) = upS (fun q => carC ca va (plC (nI k) (nI q))) i2 (E - i2)) ∧ lv_has ls 6 [(0, .ref x), (1, .ref it), (2, .int (nI k)), (3, .int (nI j)), (4, .int (nI i2))]) (fun i2 => E - i2) ?_ (j + 1) _ ⟨⟨by omega, rfl⟩, lv_sub hl [1, 2, 3, 4, 0] rfl⟩
    intro v ls hI ih40
    obtain ⟨i2, hvv⟩ : ∃ y, y = v := ⟨_, rfl⟩
    subst hvv
    obtain ⟨⟨hi2, hv2⟩, hl⟩ := hI
    refine lv_iload hx hb d_ps_nearestCare_40 (lv_at hl 4 rfl) ?_
    refine lv_aload_n hx hb d_ps_nearestCare_42 rfl (lv_at hl 0 rfl) ?_
    refine g_get S hE.1 hG hx0 rfl in_ps 0 (by decide) tw_68 (fun _ h9 => h9) rfl d_ps_nearestCare_43 ?_
    refine g_getN S hE.1 hG hs rfl in_sh 1 (by decide) (hE.2 _ nw_4) (fun _ h9 => h9) rfl d_ps_nearestCare_46 ?_
    refine g_ge (tgt := 79) hx hb d_ps_nearestCare_49 (by decide) (by omega) (by omega) (fun c49 => ?_) (fun c49 => ?_)
    · refine lv_iconst (v := 0) hx hb d_ps_nearestCare_79 (by decide) ?_
      exact W.iret hx hb hr (fun t9 ht9 hW9 => ⟨_, rfl, (ncC_no hv (by rw [hv2, show E - i2 = 0 by omega]; rfl)), ht9⟩) (fun _ h => nomatch h) d_ps_nearestCare_80
    · refine lv_aload_n hx hb d_ps_nearestCare_52 rfl (lv_at hl 1 rfl) ?_
      refine lv_iload_n hx hb d_ps_nearestCare_53 rfl (lv_at hl 2 rfl) ?_
      refine lv_iload hx hb d_ps_nearestCare_54 (lv_at hl 4 rfl) ?_
      refine g_reti (g_runS (As := [.int (nI k), .int (nI i2)]) (rest := [.ref it]) S lk_ps_168 k_ps_place (c_ps_place l Z G (nI k) (nI i2)) ⟨rfl, rfl⟩ ⟨Nat.le_of_ble_eq_true rfl, Nat.le_of_ble_eq_true rfl⟩ (gPreS hG hE) rfl hl.1 rfl (Nat.le_of_ble_eq_true rfl) d_ps_nearestCare_56 ⟨Nat.le_of_ble_eq_true rfl, Nat.le_of_ble_eq_true rfl⟩) (fun r56 h56 => ?_)
      refine g_reti (g_runVN (As := [.int r56]) (rest := []) S hE lk_ps_208 k_pt_careAt (c_pt_careAt l Z G it hp r56) ⟨rfl, rfl⟩ ⟨Nat.le_of_ble_eq_true rfl, Nat.le_of_ble_eq_true rfl⟩ (gPreV hG hE hp rfl) rfl hl.1 rfl (Nat.le_of_ble_eq_true rfl) d_ps_nearestCare_59 ⟨Nat.le_of_ble_eq_true rfl, Nat.le_of_ble_eq_true rfl⟩) (fun r59 h59 => ?_)
      refine lv_istore (lv' := [(5, .int r59), (0, .ref x), (1, .ref it), (2, .int (nI k)), (3, .int (nI j)), (4, .int (nI i2))]) hx hb d_ps_nearestCare_62 hl (by decide) rfl (fun ls hl => ?_)
      refine lv_iload hx hb d_ps_nearestCare_64 (lv_at hl 0 rfl) ?_
      refine lv_iconst (v := (-1)) hx hb d_ps_nearestCare_66 (by decide) ?_
      refine lv_icmp_eq (tgt := 73) hx hb d_ps_nearestCare_67 (by decide) (fun c67 => ?_) (fun c67 => ?_)
      · refine lv_iinc (v := nI (i2 + 1)) (lv' := [(4, .int (nI (i2 + 1))), (5, .int r59), (0, .ref x), (1, .ref it), (2, .int (nI k)), (3, .int (nI j))]) hx hb d_ps_nearestCare_73 hl (k := 5) rfl (show nI i2 + 1 = _ from nI_1 i2) (by decide) rfl (fun ls hl => ?_)
        refine lv_goto (tgt := 40) hx hb d_ps_nearestCare_76 (by decide) ?_
        exact ih40 (i2 + 1) _ ⟨⟨by omega, by
            have e9 : carC ca va (plC (nI k) (nI i2)) = -1 := by rw [← h56, ← h59]; exact c67
            rw [hv2, upS_s _ (by omega), if_pos e9]⟩, lv_sub hl [2, 3, 4, 5, 0] rfl⟩ (by first | omega | (simp only []; omega))
      · refine lv_iload hx hb d_ps_nearestCare_70 (lv_at hl 0 rfl) ?_
        exact W.iret hx hb hr (fun t9 ht9 hW9 => ⟨_, rfl, (ncC_up hv (by rw [hv2, upS_s _ (by omega)]; subst_vars; rw [if_neg c67]) c67), ht9⟩) (fun _ h => nomatch h) d_ps_nearestCare_72
  | succ q =>
    have hl : lv_has ls 6 [(0, .ref x), (1, .ref it), (2, .int (nI k)), (3, .int (nI j)), (4, .int (nI q))] := hl
    refine lv_iload hx hb d_ps_nearestCare_3 (lv_at hl 4 rfl) ?_
    refine lv_if_lt (tgt := 35) hx hb d_ps_nearestCare_5 (by decide) (fun c5 => absurd c5 (nI_pos (by omega))) (fun c5 => ?_)
    refine lv_aload_n hx hb d_ps_nearestCare_8 rfl (lv_at hl 1 rfl) ?_
    refine lv_iload_n hx hb d_ps_nearestCare_9 rfl (lv_at hl 2 rfl) ?_
    refine lv_iload hx hb d_ps_nearestCare_10 (lv_at hl 4 rfl) ?_
    refine g_reti (g_runS (As := [.int (nI k), .int (nI q)]) (rest := [.ref it]) S lk_ps_168 k_ps_place (c_ps_place l Z G (nI k) (nI q)) ⟨rfl, rfl⟩ ⟨Nat.le_of_ble_eq_true rfl, Nat.le_of_ble_eq_true rfl⟩ (gPreS hG hE) rfl hl.1 rfl (Nat.le_of_ble_eq_true rfl) d_ps_nearestCare_12 ⟨Nat.le_of_ble_eq_true rfl, Nat.le_of_ble_eq_true rfl⟩) (fun r12 h12 => ?_)
    refine g_reti (g_runVN (As := [.int r12]) (rest := []) S hE lk_ps_208 k_pt_careAt (c_pt_careAt l Z G it hp r12) ⟨rfl, rfl⟩ ⟨Nat.le_of_ble_eq_true rfl, Nat.le_of_ble_eq_true rfl⟩ (gPreV hG hE hp rfl) rfl hl.1 rfl (Nat.le_of_ble_eq_true rfl) d_ps_nearestCare_15 ⟨Nat.le_of_ble_eq_true rfl, Nat.le_of_ble_eq_true rfl⟩) (fun r15 h15 => ?_)
    refine lv_istore (lv' := [(5, .int r15), (0, .ref x), (1, .ref it), (2, .int (nI k)), (3, .int (nI j)), (4, .int (nI q))]) hx hb d_ps_nearestCare_18 hl (by decide) rfl (fun ls hl => ?_)
    refine lv_iload hx hb d_ps_nearestCare_20 (lv_at hl 0 rfl) ?_
    refine lv_iconst (v := (-1)) hx hb d_ps_nearestCare_22 (by decide) ?_
    refine lv_icmp_eq (tgt := 29) hx hb d_ps_nearestCare_23 (by decide) (fun c23 => ?_) (fun c23 => ?_)
    · refine lv_iinc (v := dn q) (lv' := [(4, .int (dn q)), (5, .int r15), (0, .ref x), (1, .ref it), (2, .int (nI k)), (3, .int (nI j))]) hx hb d_ps_nearestCare_29 hl (k := 5) rfl (dn_pred q) (by decide) rfl (fun ls hl => ?_)
      refine lv_goto (tgt := 3) hx hb d_ps_nearestCare_32 (by decide) ?_
      exact ih3 q _ ⟨⟨by omega, by
          have e9 : carC ca va (plC (nI k) (nI q)) = -1 := by rw [← h12, ← h15]; exact c23
          rw [hv]; simp only [dnS]; rw [if_pos e9]⟩, lv_sub hl [2, 3, 4, 5, 0] rfl⟩ (by first | omega | (simp only []; omega))
    · refine lv_iload hx hb d_ps_nearestCare_26 (lv_at hl 0 rfl) ?_
      exact W.iret hx hb hr (fun t9 ht9 hW9 => ⟨_, rfl, (ncC_dn (by rw [hv]; subst_vars; simp only [dnS]; rw [if_neg c23]) c23), ht9⟩) (fun _ h => nomatch h) d_ps_nearestCare_28

set_option maxHeartbeats 4000000 in
set_option maxRecDepth 100000 in
theorem c_ps_filledFromNearest (l : Launch) (Z : gZ) (G : gh) (x : Nat) {sh ma pa : Nat} {mad fk : Int32} (hx0 : G x = some (.inr (0, [.ref sh, .ref ma, .ref pa, .int mad, .int fk]))) {C E : Nat} (hs : G sh = some (.inr (1, [.int (nI C), .int (nI E)]))) (hC : C ≤ 4) (hE8 : E ≤ 8) (it : Nat) {ca va mk fa sd gn : Int32} (hp : G it = some (.inr (3, [.int ca, .int va, .int mk, .int fa, .int sd, .int gn]))) : Met l y_ps_filledFromNearest (wd_ps_filledFromNearest :: Gall) ({ frames := 2, cells := 0, slots := 0, locals := 46 }) (va_Pc [.ref x, .ref it] (gPure Z G)) (vp_Si (fun r : Int32 => r = fillC ca va E C)) 0 0 (fun _ => False) := by
  refine Met.ofW (cc := b_ps_filledFromNearest) (maxL := 5) (ret := (some .int)) (by decide) rfl ?_
  intro p e s m args below meth c s₁ B hml hv
  obtain ⟨rfl, hG, hE⟩ := hv
  have hx := B.exec
  have hb := B.bytes
  have hr := B.returns
  have hlocks := B.notSynchronized
  have S : CallFix p m c b_ps_filledFromNearest 5 s _ Gall "PackSeeds" := ⟨hx, hb, hml, findClass_of_methodNamed B.named, fun w hw => atoms_spec (ws := wd_ps_filledFromNearest :: Gall) B.pre w (List.mem_cons_of_mem _ hw)⟩
  have hl := lv_entry ([.ref x, .ref it]) (n := 5) (Nat.le_of_ble_eq_true rfl)
  rw [lg_entry_eq]
  generalize (lg_sl ([.ref x, .ref it]) ++ List.replicate (5 - (lg_sl ([.ref x, .ref it])).length) Slot.unset).toArray = ls at hl ⊢
  have hl : lv_has ls 5 [(0, .ref x), (1, .ref it)] := hl
  refine lv_iconst (v := 0) hx hb d_ps_filledFromNearest_0 (by decide) ?_
  refine lv_istore_n (lv' := [(2, .int 0), (0, .ref x), (1, .ref it)]) hx hb d_ps_filledFromNearest_1 rfl hl (by decide) rfl (fun ls hl => ?_)
  refine lv_iconst (v := nI 0) hx hb d_ps_filledFromNearest_2 (by decide) ?_
  refine lv_istore_n (lv' := [(3, .int (nI 0)), (2, .int 0), (0, .ref x), (1, .ref it)]) hx hb d_ps_filledFromNearest_3 rfl hl (by decide) rfl (fun ls hl => ?_)
  refine g_ind (V := Nat × Int32) (fun (k, b) ls => (k ≤ C ∧ b = fillC ca va E k) ∧ lv_has ls 5 [(0, .ref x), (1, .ref it), (2, .int b), (3, .int (nI k))]) (fun (k, b) => C - k) ?_ (0, 0) _ ⟨⟨Nat.zero_le _, rfl⟩, lv_sub hl [2, 3, 1, 0] rfl⟩
  intro v ls hI ih4
  obtain ⟨k, b⟩ := v
  obtain ⟨⟨hk, hb1⟩, hl⟩ := hI
  refine lv_iload_n hx hb d_ps_filledFromNearest_4 rfl (lv_at hl 3 rfl) ?_
  refine lv_aload_n hx hb d_ps_filledFromNearest_5 rfl (lv_at hl 0 rfl) ?_
  refine g_get S hE.1 hG hx0 rfl in_ps 0 (by decide) tw_68 (fun _ h9 => h9) rfl d_ps_filledFromNearest_6 ?_
  refine g_getN S hE.1 hG hs rfl in_sh 0 (by decide) (hE.2 _ nw_2) (fun _ h9 => h9) rfl d_ps_filledFromNearest_9 ?_
  refine g_ge (tgt := 63) hx hb d_ps_filledFromNearest_12 (by decide) (by omega) (by omega) (fun c12 => ?_) (fun c12 => ?_)
  · refine lv_iload_n hx hb d_ps_filledFromNearest_63 rfl (lv_at hl 2 rfl) ?_
    exact W.iret hx hb hr (fun t9 ht9 hW9 => ⟨_, rfl, (by rw [hb1, show k = C by omega]), ht9⟩) (fun _ h => nomatch h) d_ps_filledFromNearest_64
  · refine lv_iconst (v := nI 0) hx hb d_ps_filledFromNearest_15 (by decide) ?_
    refine lv_istore (lv' := [(4, .int (nI 0)), (0, .ref x), (1, .ref it), (2, .int b), (3, .int (nI k))]) hx hb d_ps_filledFromNearest_16 hl (by decide) rfl (fun ls hl => ?_)
    refine g_ind (V := Nat × Int32) (fun (j, a) ls => (j ≤ E ∧ a = fillI (fun q => carC ca va (plC (nI k) (nI q))) k E b j) ∧ lv_has ls 5 [(0, .ref x), (1, .ref it), (2, .int a), (3, .int (nI k)), (4, .int (nI j))]) (fun (j, a) => E - j) ?_ (0, b) _ ⟨⟨Nat.zero_le _, rfl⟩, lv_sub hl [1, 2, 3, 4, 0] rfl⟩
    intro v ls hI ih18
    obtain ⟨j, a⟩ := v
    obtain ⟨⟨hj, ha⟩, hl⟩ := hI
    refine lv_iload hx hb d_ps_filledFromNearest_18 (lv_at hl 4 rfl) ?_
    refine lv_aload_n hx hb d_ps_filledFromNearest_20 rfl (lv_at hl 0 rfl) ?_
    refine g_get S hE.1 hG hx0 rfl in_ps 0 (by decide) tw_68 (fun _ h9 => h9) rfl d_ps_filledFromNearest_21 ?_
    refine g_getN S hE.1 hG hs rfl in_sh 1 (by decide) (hE.2 _ nw_4) (fun _ h9 => h9) rfl d_ps_filledFromNearest_24 ?_
    refine g_ge (tgt := 57) hx hb d_ps_filledFromNearest_27 (by decide) (by omega) (by omega) (fun c27 => ?_) (fun c27 => ?_)
    · refine lv_iinc (v := nI (k + 1)) (lv' := [(3, .int (nI (k + 1))), (0, .ref x), (1, .ref it), (2, .int a), (4, .int (nI j))]) hx hb d_ps_filledFromNearest_57 hl (k := 3) rfl (show nI k + 1 = _ from nI_1 k) (by decide) rfl (fun ls hl => ?_)
      refine lv_goto (tgt := 4) hx hb d_ps_filledFromNearest_60 (by decide) ?_
      exact ih4 ((k + 1), a) _ ⟨⟨by omega, by subst_vars; rw [show j = E by omega]; rfl⟩, lv_sub hl [1, 2, 3, 0] rfl⟩ (by first | omega | (simp only []; omega))
    · refine lv_aload_n hx hb d_ps_filledFromNearest_30 rfl (lv_at hl 0 rfl) ?_
      refine lv_aload_n hx hb d_ps_filledFromNearest_31 rfl (lv_at hl 1 rfl) ?_
      refine lv_iload_n hx hb d_ps_filledFromNearest_32 rfl (lv_at hl 3 rfl) ?_
      refine lv_iload hx hb d_ps_filledFromNearest_33 (lv_at hl 4 rfl) ?_
      refine g_reti (g_runV (As := [.ref it, .int (nI k), .int (nI j)]) (rest := []) S lk_ps_204 k_ps_nearestCare (c_ps_nearestCare l Z G x hx0 hs hC hE8 it hp k j (by omega)) ⟨rfl, rfl⟩ ⟨Nat.le_of_ble_eq_true rfl, Nat.le_of_ble_eq_true rfl⟩ (gPreV hG hE hx0 rfl) rfl hl.1 rfl (Nat.le_of_ble_eq_true rfl) d_ps_filledFromNearest_35 ⟨Nat.le_of_ble_eq_true rfl, Nat.le_of_ble_eq_true rfl⟩) (fun r35 h35 => ?_)
      refine lv_iconst (v := 1) hx hb d_ps_filledFromNearest_38 (by decide) ?_
      refine lv_icmp_ne (tgt := 51) hx hb d_ps_filledFromNearest_39 (by decide) (fun c39 => ?_) (fun c39 => ?_)
      · refine lv_iinc (v := nI (j + 1)) (lv' := [(4, .int (nI (j + 1))), (0, .ref x), (1, .ref it), (2, .int a), (3, .int (nI k))]) hx hb d_ps_filledFromNearest_51 hl (k := 4) rfl (show nI j + 1 = _ from nI_1 j) (by decide) rfl (fun ls hl => ?_)
        refine lv_goto (tgt := 18) hx hb d_ps_filledFromNearest_54 (by decide) ?_
        exact ih18 ((j + 1), a) _ ⟨⟨by omega, by subst_vars; simp only [fillI, itr_s]; rw [← fillI]; simp [*]⟩, lv_sub hl [1, 2, 3, 4, 0] rfl⟩ (by first | omega | (simp only []; omega))
      · refine lv_iload_n hx hb d_ps_filledFromNearest_42 rfl (lv_at hl 2 rfl) ?_
        refine lv_iload_n hx hb d_ps_filledFromNearest_43 rfl (lv_at hl 3 rfl) ?_
        refine lv_iload hx hb d_ps_filledFromNearest_44 (lv_at hl 4 rfl) ?_
        refine g_reti (g_runS (As := [.int (nI k), .int (nI j)]) (rest := [.int a]) S lk_ps_168 k_ps_place (c_ps_place l Z G (nI k) (nI j)) ⟨rfl, rfl⟩ ⟨Nat.le_of_ble_eq_true rfl, Nat.le_of_ble_eq_true rfl⟩ (gPreS hG hE) rfl hl.1 rfl (Nat.le_of_ble_eq_true rfl) d_ps_filledFromNearest_46 ⟨Nat.le_of_ble_eq_true rfl, Nat.le_of_ble_eq_true rfl⟩) (fun r46 h46 => ?_)
        refine lv_ior hx hb d_ps_filledFromNearest_49 ?_
        refine lv_topi (fun x50 e50 => ?_)
        refine lv_istore_n (lv' := [(2, .int x50), (0, .ref x), (1, .ref it), (3, .int (nI k)), (4, .int (nI j))]) hx hb d_ps_filledFromNearest_50 rfl hl (by decide) rfl (fun ls hl => ?_)
        refine lv_iinc (v := nI (j + 1)) (lv' := [(4, .int (nI (j + 1))), (2, .int x50), (0, .ref x), (1, .ref it), (3, .int (nI k))]) hx hb d_ps_filledFromNearest_51 hl (k := 4) rfl (show nI j + 1 = _ from nI_1 j) (by decide) rfl (fun ls hl => ?_)
        refine lv_goto (tgt := 18) hx hb d_ps_filledFromNearest_54 (by decide) ?_
        exact ih18 ((j + 1), x50) _ ⟨⟨by omega, by subst_vars; simp only [fillI, itr_s]; rw [← fillI]; simp [*]⟩, lv_sub hl [2, 3, 1, 4, 0] rfl⟩ (by first | omega | (simp only []; omega))

set_option maxHeartbeats 4000000 in
set_option maxRecDepth 100000 in
theorem c_ps_bitsOf (l : Launch) (Z : gZ) (G : gh) (x : Nat) {sh ma pa : Nat} {mad fk : Int32} (hx0 : G x = some (.inr (0, [.ref sh, .ref ma, .ref pa, .int mad, .int fk]))) {C E : Nat} (hs : G sh = some (.inr (1, [.int (nI C), .int (nI E)]))) (hC : C ≤ 4) (hE8 : E ≤ 8) {ro : Nat} {stg tp : Int32} (hm : G ma = some (.inr (2, [.ref sh, .ref ro, .int stg, .int tp]))) (it : Nat) {q : Pat} (hp : G it = some (.inr (3, pfs q))) : Met l y_ps_bitsOf (wd_ps_bitsOf :: Gall) ({ frames := 3, cells := 0, slots := 0, locals := 70 }) (va_Pc [.ref x, .ref it] (gPure Z G)) (vp_Si (fun r : Int32 => r = bitsC stg tp fk C E q)) 0 0 (fun _ => False) := by
  refine Met.ofW (cc := b_ps_bitsOf) (maxL := 2) (ret := (some .int)) (by decide) rfl ?_
  intro p e s m args below meth c s₁ B hml hv
  obtain ⟨rfl, hG, hE⟩ := hv
  have hx := B.exec
  have hb := B.bytes
  have hr := B.returns
  have hlocks := B.notSynchronized
  have S : CallFix p m c b_ps_bitsOf 2 s _ Gall "PackSeeds" := ⟨hx, hb, hml, findClass_of_methodNamed B.named, fun w hw => atoms_spec (ws := wd_ps_bitsOf :: Gall) B.pre w (List.mem_cons_of_mem _ hw)⟩
  have hl := lv_entry ([.ref x, .ref it]) (n := 2) (Nat.le_of_ble_eq_true rfl)
  rw [lg_entry_eq]
  generalize (lg_sl ([.ref x, .ref it]) ++ List.replicate (2 - (lg_sl ([.ref x, .ref it])).length) Slot.unset).toArray = ls at hl ⊢
  have hl : lv_has ls 2 [(0, .ref x), (1, .ref it)] := hl
  refine lv_aload_n hx hb d_ps_bitsOf_0 rfl (lv_at hl 1 rfl) ?_
  refine g_getN S hE.1 hG hp rfl in_pt 4 (by decide) (hE.2 _ nw_22) (fun _ h9 => h9) rfl d_ps_bitsOf_1 ?_
  refine lv_iconst (v := (-1)) hx hb d_ps_bitsOf_4 (by decide) ?_
  refine lv_icmp_eq (tgt := 20) hx hb d_ps_bitsOf_5 (by decide) (fun c5 => ?_) (fun c5 => ?_)
  · refine lv_aload_n hx hb d_ps_bitsOf_20 rfl (lv_at hl 0 rfl) ?_
    refine g_get S hE.1 hG hx0 rfl in_ps 4 (by decide) tw_72 (fun _ h9 => h9) rfl d_ps_bitsOf_21 ?_
    refine lv_iconst (v := 1) hx hb d_ps_bitsOf_24 (by decide) ?_
    refine lv_icmp_ne (tgt := 40) hx hb d_ps_bitsOf_25 (by decide) (fun c25 => ?_) (fun c25 => ?_)
    · refine lv_aload_n hx hb d_ps_bitsOf_40 rfl (lv_at hl 0 rfl) ?_
      refine g_get S hE.1 hG hx0 rfl in_ps 4 (by decide) tw_72 (fun _ h9 => h9) rfl d_ps_bitsOf_41 ?_
      refine lv_iconst (v := 2) hx hb d_ps_bitsOf_44 (by decide) ?_
      refine lv_icmp_ne (tgt := 56) hx hb d_ps_bitsOf_45 (by decide) (fun c45 => ?_) (fun c45 => ?_)
      · refine lv_aload_n hx hb d_ps_bitsOf_56 rfl (lv_at hl 1 rfl) ?_
        refine g_getN S hE.1 hG hp rfl in_pt 1 (by decide) (hE.2 _ nw_19) (fun _ h9 => h9) rfl d_ps_bitsOf_57 ?_
        exact W.iret hx hb hr (fun t9 ht9 hW9 => ⟨_, rfl, (by simp [bitsC, *]), ht9⟩) (fun _ h => nomatch h) d_ps_bitsOf_60
      · refine lv_aload_n hx hb d_ps_bitsOf_48 rfl (lv_at hl 0 rfl) ?_
        refine lv_aload_n hx hb d_ps_bitsOf_49 rfl (lv_at hl 1 rfl) ?_
        refine g_reti (g_runV (As := [.ref it]) (rest := []) S lk_ps_201 k_ps_filledFromNearest (c_ps_filledFromNearest l Z G x hx0 hs hC hE8 it hp) ⟨rfl, rfl⟩ ⟨Nat.le_of_ble_eq_true rfl, Nat.le_of_ble_eq_true rfl⟩ (gPreV hG hE hx0 rfl) rfl hl.1 rfl (Nat.le_of_ble_eq_true rfl) d_ps_bitsOf_50 ⟨Nat.le_of_ble_eq_true rfl, Nat.le_of_ble_eq_true rfl⟩) (fun r50 h50 => ?_)
        refine lv_goto (tgt := 60) hx hb d_ps_bitsOf_53 (by decide) ?_
        exact W.iret hx hb hr (fun t9 ht9 hW9 => ⟨_, rfl, (by simp [bitsC, *]), ht9⟩) (fun _ h => nomatch h) d_ps_bitsOf_60
    · refine lv_aload_n hx hb d_ps_bitsOf_28 rfl (lv_at hl 1 rfl) ?_
      refine g_getN S hE.1 hG hp rfl in_pt 1 (by decide) (hE.2 _ nw_19) (fun _ h9 => h9) rfl d_ps_bitsOf_29 ?_
      refine lv_aload_n hx hb d_ps_bitsOf_32 rfl (lv_at hl 1 rfl) ?_
      refine g_getN S hE.1 hG hp rfl in_pt 0 (by decide) (hE.2 _ nw_18) (fun _ h9 => h9) rfl d_ps_bitsOf_33 ?_
      refine lv_iconst (v := (-1)) hx hb d_ps_bitsOf_36 (by decide) ?_
      refine lv_ixor hx hb d_ps_bitsOf_37 ?_
      refine lv_ior hx hb d_ps_bitsOf_38 ?_
      exact W.iret hx hb hr (fun t9 ht9 hW9 => ⟨_, rfl, (by simp [bitsC, c5, c25]), ht9⟩) (fun _ h => nomatch h) d_ps_bitsOf_39
  · refine lv_aload_n hx hb d_ps_bitsOf_8 rfl (lv_at hl 0 rfl) ?_
    refine g_get S hE.1 hG hx0 rfl in_ps 1 (by decide) tw_69 (fun _ h9 => h9) rfl d_ps_bitsOf_9 ?_
    refine lv_aload_n hx hb d_ps_bitsOf_12 rfl (lv_at hl 1 rfl) ?_
    refine g_getN S hE.1 hG hp rfl in_pt 4 (by decide) (hE.2 _ nw_22) (fun _ h9 => h9) rfl d_ps_bitsOf_13 ?_
    refine g_reti (g_runVN (As := [.int (psd q)]) (rest := []) S hE lk_ps_198 k_ma_make (c_ma_make l Z G ma hm hs hC hE8 (psd q)) ⟨rfl, rfl⟩ ⟨Nat.le_of_ble_eq_true rfl, Nat.le_of_ble_eq_true rfl⟩ (gPreV hG hE hm rfl) rfl hl.1 rfl (Nat.le_of_ble_eq_true rfl) d_ps_bitsOf_16 ⟨Nat.le_of_ble_eq_true rfl, Nat.le_of_ble_eq_true rfl⟩) (fun r16 h16 => ?_)
    exact W.iret hx hb hr (fun t9 ht9 hW9 => ⟨_, rfl, (by simp [bitsC, c5, h16]), ht9⟩) (fun _ h => nomatch h) d_ps_bitsOf_19

set_option maxHeartbeats 4000000 in
set_option maxRecDepth 100000 in
theorem c_ma_hasLongestCycle (l : Launch) (Z : gZ) (G : gh) (h : Nat) {sh ro : Nat} {D : Nat} {tp : Int32} (hm : G h = some (.inr (2, [.ref sh, .ref ro, .int (nI D), .int tp]))) (hD0 : 1 ≤ D) (hD : D ≤ 16) : Met l y_ma_hasLongestCycle (wd_ma_hasLongestCycle :: Gall) ({ frames := 2, cells := 0, slots := 0, locals := 42 }) (va_Pc [.ref h] (gPure Z G)) (vp_Si (fun r : Int32 => (r = 1 ∧ lcC (nI D) tp (2 ^ D - 1)) ∨ (r = 0 ∧ ¬ lcC (nI D) tp (2 ^ D - 1)))) 0 0 (fun _ => False) := by
  refine Met.ofW (cc := b_ma_hasLongestCycle) (maxL := 4) (ret := (some .boolean)) (by decide) rfl ?_
  intro p e s m args below meth c s₁ B hml hv
  obtain ⟨rfl, hG, hE⟩ := hv
  have hx := B.exec
  have hb := B.bytes
  have hr := B.returns
  have hlocks := B.notSynchronized
  have S : CallFix p m c b_ma_hasLongestCycle 4 s _ Gall "PackSeeds$Machine" := ⟨hx, hb, hml, findClass_of_methodNamed B.named, fun w hw => atoms_spec (ws := wd_ma_hasLongestCycle :: Gall) B.pre w (List.mem_cons_of_mem _ hw)⟩
  have hl := lv_entry ([.ref h]) (n := 4) (Nat.le_of_ble_eq_true rfl)
  rw [lg_entry_eq]
  generalize (lg_sl ([.ref h]) ++ List.replicate (4 - (lg_sl ([.ref h])).length) Slot.unset).toArray = ls at hl ⊢
  have hl : lv_has ls 4 [(0, .ref h)] := hl
  have hN : 1 ≤ 2 ^ D - 1 ∧ 2 ^ D - 1 < 2 ^ 31 := by
    have h1 : 2 ^ 1 ≤ 2 ^ D := Nat.pow_le_pow_right (by omega) hD0
    have h2 : 2 ^ D ≤ 2 ^ 16 := Nat.pow_le_pow_right (by omega) hD
    omega
  refine lv_iconst (v := 1) hx hb d_ma_hasLongestCycle_0 (by decide) ?_
  refine lv_aload_n hx hb d_ma_hasLongestCycle_1 rfl (lv_at hl 0 rfl) ?_
  refine g_get S hE.1 hG hm rfl in_ma 2 (by decide) tw_53 (fun _ h9 => h9) rfl d_ma_hasLongestCycle_2 ?_
  refine lv_ishl hx hb d_ma_hasLongestCycle_5 ?_
  refine lv_iconst (v := 1) hx hb d_ma_hasLongestCycle_6 (by decide) ?_
  refine lv_isub hx hb d_ma_hasLongestCycle_7 ?_
  refine g_topi (y := nI (2 ^ D - 1)) (lng1 D (by omega)) ?_
  refine lv_istore_n (lv' := [(1, .int (nI (2 ^ D - 1))), (0, .ref h)]) hx hb d_ma_hasLongestCycle_8 rfl hl (by decide) rfl (fun ls hl => ?_)
  refine lv_iconst (v := 1) hx hb d_ma_hasLongestCycle_9 (by decide) ?_
  refine lv_istore_n (lv' := [(2, .int 1), (1, .int (nI (2 ^ D - 1))), (0, .ref h)]) hx hb d_ma_hasLongestCycle_10 rfl hl (by decide) rfl (fun ls hl => ?_)
  refine lv_iconst (v := nI 1) hx hb d_ma_hasLongestCycle_11 (by decide) ?_
  refine lv_istore_n (lv' := [(3, .int (nI 1)), (2, .int 1), (1, .int (nI (2 ^ D - 1))), (0, .ref h)]) hx hb d_ma_hasLongestCycle_12 rfl hl (by decide) rfl (fun ls hl => ?_)
  refine g_ind (V := Nat × Int32) (fun (i, st) ls => (i + 1 ≤ 2 ^ D - 1 ∧ st = sqC (nI D) tp i ∧ ∀ j, 1 ≤ j → j ≤ i → sqC (nI D) tp j ≠ 1) ∧ lv_has ls 4 [(0, .ref h), (1, .int (nI (2 ^ D - 1))), (2, .int st), (3, .int (nI (i + 1)))]) (fun (i, st) => 2 ^ D - 1 - i) ?_ (0, 1) _ ⟨⟨hN.1, rfl, fun j h1 h2 => by omega⟩, lv_sub hl [3, 2, 1, 0] rfl⟩
  intro v ls hI ih13
  obtain ⟨i, st⟩ := v
  obtain ⟨⟨hi, hst, hno⟩, hl⟩ := hI
  refine lv_iload_n hx hb d_ma_hasLongestCycle_13 rfl (lv_at hl 3 rfl) ?_
  refine lv_iload_n hx hb d_ma_hasLongestCycle_14 rfl (lv_at hl 1 rfl) ?_
  refine g_ge (tgt := 37) hx hb d_ma_hasLongestCycle_15 (by decide) (by omega) (by omega) (fun c15 => ?_) (fun c15 => ?_)
  · refine lv_aload_n hx hb d_ma_hasLongestCycle_37 rfl (lv_at hl 0 rfl) ?_
    refine lv_iload_n hx hb d_ma_hasLongestCycle_38 rfl (lv_at hl 2 rfl) ?_
    refine g_reti (g_runV (As := [.int st]) (rest := []) S lk_ma_47 k_ma_step (c_ma_step l Z G h hm st) ⟨rfl, rfl⟩ ⟨Nat.le_of_ble_eq_true rfl, Nat.le_of_ble_eq_true rfl⟩ (gPreV hG hE hm rfl) rfl hl.1 rfl (Nat.le_of_ble_eq_true rfl) d_ma_hasLongestCycle_39 ⟨Nat.le_of_ble_eq_true rfl, Nat.le_of_ble_eq_true rfl⟩) (fun r39 h39 => ?_)
    refine lv_iconst (v := 1) hx hb d_ma_hasLongestCycle_42 (by decide) ?_
    refine lv_icmp_ne (tgt := 50) hx hb d_ma_hasLongestCycle_43 (by decide) (fun c43 => ?_) (fun c43 => ?_)
    · refine lv_iconst (v := 0) hx hb d_ma_hasLongestCycle_50 (by decide) ?_
      exact W.zret hx hb hr rfl (fun t9 ht9 hW9 => ⟨_, rfl, (by
          have e1 : i + 1 = 2 ^ D - 1 := by omega
          have e2 : r39 = sqC (nI D) tp (2 ^ D - 1) := by rw [← e1, h39, hst]; rfl
          first | exact Or.inl ⟨rfl, fun j h1 h2 => hno j h1 (by omega), by rw [← e2]; exact c43⟩ | exact Or.inr ⟨rfl, fun h9 => c43 (by rw [e2]; exact h9.2)⟩), ht9⟩) (fun _ h => nomatch h) d_ma_hasLongestCycle_51
    · refine lv_iconst (v := 1) hx hb d_ma_hasLongestCycle_46 (by decide) ?_
      refine lv_goto (tgt := 51) hx hb d_ma_hasLongestCycle_47 (by decide) ?_
      exact W.zret hx hb hr rfl (fun t9 ht9 hW9 => ⟨_, rfl, (by
          have e1 : i + 1 = 2 ^ D - 1 := by omega
          have e2 : r39 = sqC (nI D) tp (2 ^ D - 1) := by rw [← e1, h39, hst]; rfl
          first | exact Or.inl ⟨rfl, fun j h1 h2 => hno j h1 (by omega), by rw [← e2]; exact c43⟩ | exact Or.inr ⟨rfl, fun h9 => c43 (by rw [e2]; exact h9.2)⟩), ht9⟩) (fun _ h => nomatch h) d_ma_hasLongestCycle_51
  · refine lv_aload_n hx hb d_ma_hasLongestCycle_18 rfl (lv_at hl 0 rfl) ?_
    refine lv_iload_n hx hb d_ma_hasLongestCycle_19 rfl (lv_at hl 2 rfl) ?_
    refine g_reti (g_runV (As := [.int st]) (rest := []) S lk_ma_47 k_ma_step (c_ma_step l Z G h hm st) ⟨rfl, rfl⟩ ⟨Nat.le_of_ble_eq_true rfl, Nat.le_of_ble_eq_true rfl⟩ (gPreV hG hE hm rfl) rfl hl.1 rfl (Nat.le_of_ble_eq_true rfl) d_ma_hasLongestCycle_20 ⟨Nat.le_of_ble_eq_true rfl, Nat.le_of_ble_eq_true rfl⟩) (fun r20 h20 => ?_)
    refine lv_istore_n (lv' := [(2, .int r20), (0, .ref h), (1, .int (nI (2 ^ D - 1))), (3, .int (nI (i + 1)))]) hx hb d_ma_hasLongestCycle_23 rfl hl (by decide) rfl (fun ls hl => ?_)
    refine lv_iload_n hx hb d_ma_hasLongestCycle_24 rfl (lv_at hl 0 rfl) ?_
    refine lv_iconst (v := 1) hx hb d_ma_hasLongestCycle_25 (by decide) ?_
    refine lv_icmp_ne (tgt := 31) hx hb d_ma_hasLongestCycle_26 (by decide) (fun c26 => ?_) (fun c26 => ?_)
    · refine lv_iinc (v := nI ((i + 1) + 1)) (lv' := [(3, .int (nI ((i + 1) + 1))), (2, .int r20), (0, .ref h), (1, .int (nI (2 ^ D - 1)))]) hx hb d_ma_hasLongestCycle_31 hl (k := 3) rfl (show nI (i + 1) + 1 = _ from nI_1 (i + 1)) (by decide) rfl (fun ls hl => ?_)
      refine lv_goto (tgt := 13) hx hb d_ma_hasLongestCycle_34 (by decide) ?_
      exact ih13 ((i + 1), r20) _ ⟨⟨by omega, by subst_vars; rfl, fun j h1 h2 => by
          rcases Nat.lt_or_ge j (i + 1) with h3 | h3
          · exact hno j h1 (by omega)
          · rw [show j = i + 1 by omega]; intro h9; exact c26 (by rw [h20, hst]; exact h9)⟩, lv_sub hl [2, 3, 1, 0] rfl⟩ (by first | omega | (simp only []; omega))
    · refine lv_iconst (v := 0) hx hb d_ma_hasLongestCycle_29 (by decide) ?_
      exact W.zret hx hb hr rfl (fun t9 ht9 hW9 => ⟨_, rfl, (Or.inr ⟨rfl, fun h9 => h9.1 (i + 1) (by omega) (by omega) (by rw [← c26, h20, hst]; rfl)⟩), ht9⟩) (fun _ h => nomatch h) d_ma_hasLongestCycle_30

set_option maxHeartbeats 4000000 in
set_option maxRecDepth 100000 in
theorem c_ma_reduced (l : Launch) (Z : gZ) (G : gh) (h : Nat) {sh ro : Nat} {stg tp : Int32} (hm : G h = some (.inr (2, [.ref sh, .ref ro, .int stg, .int tp]))) {rw : Nat → Int64} (hro : G ro = some (.inl (Z.2 0, 48, .inr (.inl rw)))) (row : Int64) : Met l y_ma_reduced (wd_ma_reduced :: Gall) ({ frames := 0, cells := 0, slots := 0, locals := 0 }) (va_Pc [.ref h, .long row] (gPure Z G)) (vp_Sl (fun r : Int64 => r = redC rw 32 row)) 0 0 (fun _ => False) := by
  refine Met.ofW (cc := b_ma_reduced) (maxL := 6) (ret := (some .long)) (by decide) rfl ?_
  intro p e s m args below meth c s₁ B hml hv
  obtain ⟨rfl, hG, hE⟩ := hv
  have hx := B.exec
  have hb := B.bytes
  have hr := B.returns
  have hlocks := B.notSynchronized
  have S : CallFix p m c b_ma_reduced 6 s _ Gall "PackSeeds$Machine" := ⟨hx, hb, hml, findClass_of_methodNamed B.named, fun w hw => atoms_spec (ws := wd_ma_reduced :: Gall) B.pre w (List.mem_cons_of_mem _ hw)⟩
  have hl := lv_entry ([.ref h, .long row]) (n := 6) (Nat.le_of_ble_eq_true rfl)
  rw [lg_entry_eq]
  generalize (lg_sl ([.ref h, .long row]) ++ List.replicate (6 - (lg_sl ([.ref h, .long row])).length) Slot.unset).toArray = ls at hl ⊢
  have hl : lv_has ls 6 [(0, .ref h), (1, .long row)] := hl
  refine lv_lload_n hx hb d_ma_reduced_0 rfl (lv_at hl 1 rfl) ?_
  refine lv_lstore_n (lv' := [(3, .long row), (0, .ref h), (1, .long row)]) hx hb d_ma_reduced_1 rfl hl (by decide) rfl (fun ls hl => ?_)
  refine lv_aload_n hx hb d_ma_reduced_2 rfl (lv_at hl 1 rfl) ?_
  refine g_get S hE.1 hG hm rfl in_ma 1 (by decide) tw_52 (fun _ h9 => h9) rfl d_ma_reduced_3 ?_
  refine g_alen S hE.1 hG hro 0 rfl (v := nI 48) rfl d_ma_reduced_6 ?_
  refine lv_iconst (v := 1) hx hb d_ma_reduced_7 (by decide) ?_
  refine lv_isub hx hb d_ma_reduced_8 ?_
  refine g_topi (y := nI (32 + 15)) rfl ?_
  refine lv_istore (lv' := [(5, .int (nI (32 + 15))), (3, .long row), (0, .ref h), (1, .long row)]) hx hb d_ma_reduced_9 hl (by decide) rfl (fun ls hl => ?_)
  refine g_ind (V := Nat × Int64) (fun (k, rs) ls => (k ≤ 32 ∧ redC rw 32 row = redC rw k rs) ∧ lv_has ls 6 [(0, .ref h), (1, .long row), (3, .long rs), (5, .int (nI (k + 15)))]) (fun (k, rs) => k) ?_ (32, row) _ ⟨⟨Nat.le_refl _, rfl⟩, lv_sub hl [2, 3, 1, 0] rfl⟩
  intro v ls hI ih11
  obtain ⟨k, rs⟩ := v
  obtain ⟨⟨hk, hv⟩, hl⟩ := hI
  refine lv_iload hx hb d_ma_reduced_11 (lv_at hl 3 rfl) ?_
  refine lv_bipush (v := nI 16) hx hb d_ma_reduced_13 (by decide) ?_
  refine g_lt (tgt := 45) hx hb d_ma_reduced_15 (by decide) (by omega) (by omega) (fun c15 => ?_) (fun c15 => ?_)
  · refine lv_lload_n hx hb d_ma_reduced_45 rfl (lv_at hl 2 rfl) ?_
    exact W.lret hx hb hr (fun t9 ht9 hW9 => ⟨_, rfl, (by rw [hv, show k = 0 by omega]; rfl), ht9⟩) (fun _ h => nomatch h) d_ma_reduced_46
  · obtain ⟨k1, rfl⟩ : ∃ k1, k = k1 + 1 := ⟨k - 1, by omega⟩
    refine lv_lload_n hx hb d_ma_reduced_18 rfl (lv_at hl 2 rfl) ?_
    refine lv_iload hx hb d_ma_reduced_19 (lv_at hl 3 rfl) ?_
    refine lv_lshr hx hb d_ma_reduced_21 rfl ?_
    refine lv_lconst (v := 1) hx hb d_ma_reduced_22 (by decide) ?_
    refine lv_land hx hb d_ma_reduced_23 ?_
    refine lv_lconst (v := 0) hx hb d_ma_reduced_24 (by decide) ?_
    refine W.lcmp hx hb d_ma_reduced_25 ?_
    refine lv_if_eq (tgt := 39) hx hb d_ma_reduced_26 (by decide) (fun c26 => ?_) (fun c26 => ?_)
    · refine lv_iinc (v := nI (k1 + 15)) (lv' := [(5, .int (nI (k1 + 15))), (0, .ref h), (1, .long row), (3, .long rs)]) hx hb d_ma_reduced_39 hl (k := 3) rfl (show nI (k1 + 1 + 15) + (-1) = nI (k1 + 15) from pk_m1 (k1 + 15)) (by decide) rfl (fun ls hl => ?_)
      refine lv_goto (tgt := 11) hx hb d_ma_reduced_42 (by decide) ?_
      exact ih11 (k1, rs) _ ⟨⟨by omega, by
          rw [hv]
          show redC rw (k1 + 1) rs = _
          first | (have e9 : lbit rs (k1 + 16) = 0 := (lg_cmp_eq _ _).mp c26; rw [redC, if_pos e9]) | (have e9 : ¬ lbit rs (k1 + 16) = 0 := fun z => c26 ((lg_cmp_eq _ _).mpr z); subst_vars; rw [redC, if_neg e9])⟩, lv_sub hl [1, 2, 3, 0] rfl⟩ (by first | omega | (simp only []; omega))
    · refine lv_lload_n hx hb d_ma_reduced_29 rfl (lv_at hl 2 rfl) ?_
      refine lv_aload_n hx hb d_ma_reduced_30 rfl (lv_at hl 0 rfl) ?_
      refine g_get S hE.1 hG hm rfl in_ma 1 (by decide) tw_52 (fun _ h9 => h9) rfl d_ma_reduced_31 ?_
      refine lv_iload hx hb d_ma_reduced_34 (lv_at hl 3 rfl) ?_
      refine g_lald S hE.1 hG hro 0 rfl (vp_in_nI (by omega) (by omega)) d_ma_reduced_36 ?_
      refine g_topl (congrArg rw (nI_clamp (show (k1 + 1 + 15) < 2 ^ 31 by omega))) ?_
      refine lv_lxor hx hb d_ma_reduced_37 ?_
      refine lv_topl (fun x38 e38 => ?_)
      refine lv_lstore_n (lv' := [(3, .long x38), (0, .ref h), (1, .long row), (5, .int (nI (k1 + 1 + 15)))]) hx hb d_ma_reduced_38 rfl hl (by decide) rfl (fun ls hl => ?_)
      refine lv_iinc (v := nI (k1 + 15)) (lv' := [(5, .int (nI (k1 + 15))), (3, .long x38), (0, .ref h), (1, .long row)]) hx hb d_ma_reduced_39 hl (k := 3) rfl (show nI (k1 + 1 + 15) + (-1) = nI (k1 + 15) from pk_m1 (k1 + 15)) (by decide) rfl (fun ls hl => ?_)
      refine lv_goto (tgt := 11) hx hb d_ma_reduced_42 (by decide) ?_
      exact ih11 (k1, x38) _ ⟨⟨by omega, by
          rw [hv]
          show redC rw (k1 + 1) rs = _
          first | (have e9 : lbit rs (k1 + 16) = 0 := (lg_cmp_eq _ _).mp c26; rw [redC, if_pos e9]) | (have e9 : ¬ lbit rs (k1 + 16) = 0 := fun z => c26 ((lg_cmp_eq _ _).mpr z); subst_vars; rw [redC, if_neg e9])⟩, lv_sub hl [2, 3, 1, 0] rfl⟩ (by first | omega | (simp only []; omega))

set_option maxHeartbeats 4000000 in
set_option maxRecDepth 100000 in
theorem c_ps_greatestDivisor (l : Launch) (Z : gZ) (G : gh) (a b : Int64) : Met l y_ps_greatestDivisor (wd_ps_greatestDivisor :: Gall) ({ frames := 1, cells := 0, slots := 0, locals := 23 }) (va_Pc [.long a, .long b] (gPure Z G)) (vp_Sl (fun r : Int64 => r = gcdC a b)) 0 0 (fun _ => False) := by
  refine Met.ofW (cc := b_ps_greatestDivisor) (maxL := 11) (ret := (some .long)) (by decide) rfl ?_
  intro p e s m args below meth c s₁ B hml hv
  obtain ⟨rfl, hG, hE⟩ := hv
  have hx := B.exec
  have hb := B.bytes
  have hr := B.returns
  have hlocks := B.notSynchronized
  have S : CallFix p m c b_ps_greatestDivisor 11 s _ Gall "PackSeeds" := ⟨hx, hb, hml, findClass_of_methodNamed B.named, fun w hw => atoms_spec (ws := wd_ps_greatestDivisor :: Gall) B.pre w (List.mem_cons_of_mem _ hw)⟩
  have hl := lv_entry ([.long a, .long b]) (n := 11) (Nat.le_of_ble_eq_true rfl)
  rw [lg_entry_eq]
  generalize (lg_sl ([.long a, .long b]) ++ List.replicate (11 - (lg_sl ([.long a, .long b])).length) Slot.unset).toArray = ls at hl ⊢
  have hl : lv_has ls 11 [(0, .long a), (2, .long b)] := hl
  refine lv_lload_n hx hb d_ps_greatestDivisor_0 rfl (lv_at hl 0 rfl) ?_
  refine lv_lstore (lv' := [(4, .long a), (0, .long a), (2, .long b)]) hx hb d_ps_greatestDivisor_1 hl (by decide) rfl (fun ls hl => ?_)
  refine lv_lload_n hx hb d_ps_greatestDivisor_3 rfl (lv_at hl 2 rfl) ?_
  refine lv_lstore (lv' := [(6, .long b), (4, .long a), (0, .long a), (2, .long b)]) hx hb d_ps_greatestDivisor_4 hl (by decide) rfl (fun ls hl => ?_)
  refine lv_iconst (v := nI 0) hx hb d_ps_greatestDivisor_6 (by decide) ?_
  refine lv_istore (lv' := [(8, .int (nI 0)), (6, .long b), (4, .long a), (0, .long a), (2, .long b)]) hx hb d_ps_greatestDivisor_7 hl (by decide) rfl (fun ls hl => ?_)
  refine g_ind (V := Nat × Int64 × Int64) (fun (i, g, b2) ls => (i ≤ 128 ∧ gdC 128 a b = gdC (128 - i) g b2) ∧ lv_has ls 11 [(0, .long a), (2, .long b), (4, .long g), (6, .long b2), (8, .int (nI i))]) (fun (i, g, b2) => 128 - i) ?_ (0, a, b) _ ⟨⟨Nat.zero_le _, rfl⟩, lv_sub hl [3, 4, 2, 1, 0] rfl⟩
  intro v ls hI ih9
  obtain ⟨i, g, b2⟩ := v
  obtain ⟨⟨hi, hv⟩, hl⟩ := hI
  refine lv_iload hx hb d_ps_greatestDivisor_9 (lv_at hl 4 rfl) ?_
  refine lv_sipush (v := nI 128) hx hb d_ps_greatestDivisor_11 (by decide) ?_
  refine g_ge (tgt := 45) hx hb d_ps_greatestDivisor_14 (by decide) (by omega) (by omega) (fun c14 => ?_) (fun c14 => ?_)
  · refine lv_lconst (v := 1) hx hb d_ps_greatestDivisor_45 (by decide) ?_
    refine lv_lload hx hb d_ps_greatestDivisor_46 (lv_at hl 2 rfl) ?_
    refine va_mmax_long hx hb (hml.trans hl.1.symm) S.2.2.2.1 (S.2.2.2.2 _ tw_450) (S.2.2.2.2 _ tw_451) (S.2.2.2.2 _ tw_3) (S.2.2.2.2 _ tw_452) (Nat.le_of_ble_eq_true rfl) (Nat.le_of_ble_eq_true rfl) (Nat.le_of_ble_eq_true rfl) (Nat.le_of_ble_eq_true rfl) d_ps_greatestDivisor_48 ?_
    exact W.lret hx hb hr (fun t9 ht9 hW9 => ⟨_, rfl, (by
        have e1 : gdC 128 a b = g := by
          rw [hv]
          first | (rw [show 128 - i = 0 by omega]; rfl) | (rw [show 128 - i = (128 - (i + 1)) + 1 by omega, gdC, if_pos ((lg_cmp_eq _ _).mp c21)])
        simp only [gcdC, e1]), ht9⟩) (fun _ h => nomatch h) d_ps_greatestDivisor_51
  · refine lv_lload hx hb d_ps_greatestDivisor_17 (lv_at hl 3 rfl) ?_
    refine lv_lconst (v := 0) hx hb d_ps_greatestDivisor_19 (by decide) ?_
    refine W.lcmp hx hb d_ps_greatestDivisor_20 ?_
    refine lv_if_eq (tgt := 45) hx hb d_ps_greatestDivisor_21 (by decide) (fun c21 => ?_) (fun c21 => ?_)
    · refine lv_lconst (v := 1) hx hb d_ps_greatestDivisor_45 (by decide) ?_
      refine lv_lload hx hb d_ps_greatestDivisor_46 (lv_at hl 2 rfl) ?_
      refine va_mmax_long hx hb (hml.trans hl.1.symm) S.2.2.2.1 (S.2.2.2.2 _ tw_450) (S.2.2.2.2 _ tw_451) (S.2.2.2.2 _ tw_3) (S.2.2.2.2 _ tw_452) (Nat.le_of_ble_eq_true rfl) (Nat.le_of_ble_eq_true rfl) (Nat.le_of_ble_eq_true rfl) (Nat.le_of_ble_eq_true rfl) d_ps_greatestDivisor_48 ?_
      exact W.lret hx hb hr (fun t9 ht9 hW9 => ⟨_, rfl, (by
          have e1 : gdC 128 a b = g := by
            rw [hv]
            first | (rw [show 128 - i = 0 by omega]; rfl) | (rw [show 128 - i = (128 - (i + 1)) + 1 by omega, gdC, if_pos ((lg_cmp_eq _ _).mp c21)])
          simp only [gcdC, e1]), ht9⟩) (fun _ h => nomatch h) d_ps_greatestDivisor_51
    · refine lv_lload hx hb d_ps_greatestDivisor_24 (lv_at hl 2 rfl) ?_
      refine lv_lload hx hb d_ps_greatestDivisor_26 (lv_at hl 3 rfl) ?_
      refine lv_lrem hx hb d_ps_greatestDivisor_28 (fun z => c21 ((lg_cmp_eq _ _).mpr z)) ?_
      refine lv_topl (fun x29 e29 => ?_)
      refine lv_lstore (lv' := [(9, .long x29), (0, .long a), (2, .long b), (4, .long g), (6, .long b2), (8, .int (nI i))]) hx hb d_ps_greatestDivisor_29 hl (by decide) rfl (fun ls hl => ?_)
      refine lv_lload hx hb d_ps_greatestDivisor_31 (lv_at hl 4 rfl) ?_
      refine lv_lstore (lv' := [(4, .long b2), (9, .long x29), (0, .long a), (2, .long b), (6, .long b2), (8, .int (nI i))]) hx hb d_ps_greatestDivisor_33 hl (by decide) rfl (fun ls hl => ?_)
      refine lv_lload hx hb d_ps_greatestDivisor_35 (lv_at hl 1 rfl) ?_
      refine lv_lstore (lv' := [(6, .long x29), (4, .long b2), (9, .long x29), (0, .long a), (2, .long b), (8, .int (nI i))]) hx hb d_ps_greatestDivisor_37 hl (by decide) rfl (fun ls hl => ?_)
      refine lv_iinc (v := nI (i + 1)) (lv' := [(8, .int (nI (i + 1))), (6, .long x29), (4, .long b2), (9, .long x29), (0, .long a), (2, .long b)]) hx hb d_ps_greatestDivisor_39 hl (k := 5) rfl (show nI i + 1 = _ from nI_1 i) (by decide) rfl (fun ls hl => ?_)
      refine lv_goto (tgt := 9) hx hb d_ps_greatestDivisor_42 (by decide) ?_
      exact ih9 ((i + 1), b2, x29) _ ⟨⟨by omega, by
          rw [hv, show 128 - i = (128 - (i + 1)) + 1 by omega]
          subst_vars
          rw [gdC, if_neg (fun z => c21 ((lg_cmp_eq _ _).mpr z))]⟩, lv_sub hl [4, 5, 2, 1, 0] rfl⟩ (by first | omega | (simp only []; omega))
end
section
section GMORE
variable {p : Program} {l : Launch} {e : Env} {R : Room} {s : State} {m : MethodId} {args : Array Value} {below : List Frame} {meth : Method} {c : Code} {H : Heap} {locs : List Loc} {cells slots : Nat} {Q : State → Prop}
variable {cc : ByteArray} {pc nL : Nat} {ls : Array Slot} {rest : List Value} {D : va_G} {cl : List vw_C} {A : Nat → Prop} {a : Nat} {tys : List (ClassId × FieldType)} {G : gh} {H0 : Heap} {Ts : List Cond} {own : String}
/-- putfield of a nest mate's private field -/
theorem g_putN {ref C host : String} {T : u_T} {N ci index : Nat} (S : CallFix p m c cc nL s args Ts own) (hK : va_K D cl tys s) (hG : gS A H0 D cl G H locs) {fs : List Value} (he : G a = some (.inr (ci, fs))) (hc : cl[ci]? = some (C, T, N)) (hin : ∀ w ∈ u_ws C T N, w ∈ Ts) (ty0 : Nat → FieldType) (hty : ∀ k, k < N → parseFieldDescriptor (T k).2.2.1 = some (ty0 k)) (hnm : ∀ a, a < N → ∀ b, b < N → a ≠ b → (T a).2.1 ≠ (T b).2.1) (k : Nat) (hk : k < N) (hlink : va_Nw (.fieldLinkNest own index ref (T k).2.1 (T k).2.2.1 host) s) (hsame : ∀ x, s.fieldFound? (T k).1 (T k).2.1 (T k).2.2.1 = some x → s.fieldFound? ref (T k).2.1 (T k).2.2.1 = some x) (hfin : (T k).2.2.2 = false) {ty : FieldType} {v : Value} (hd : parseFieldDescriptor (T k).2.2.1 = some ty) (hn : narrow ty v = v) (hfit : fits ty v = true) (hl : k < fs.length) (hdg : decode cc pc = .ok (.putfield index, 3))
    (kk : ∀ (H1 : Heap) (locs1 : List Loc), gS A H0 D cl (gup G a (.inr (ci, fs.set k v))) H1 locs1 → W p l e R s m args below meth c H1 locs1 cells slots Q (F0 m (pc + 3) ls rest)) : W p l e R s m args below meth c H locs cells slots Q (F0 m pc ls (v :: .ref a :: rest)) := by
  have hts := S.2.2.2.2
  have hown := S.2.2.2.1
  have hap := va_apart (own := own) hts hin ty0 hty hnm hK hc
  obtain ⟨r, h1, cell, q1, q2, q3, q4⟩ := hG.1 a _ he
  have hr : r = (C, T, N) := Option.some.inj (h1.symm.trans hc)
  subst hr
  obtain ⟨hSl, hfc, kC, hkC, hkind⟩ := hK.1 ci _ hc
  obtain ⟨cf, kf, fi, f, hi, hsl⟩ := hSl k hk
  have hlay := hts _ (hin _ (u_in_lay hk))
  unfold u_lay at hlay
  rw [if_neg (by rw [hfin]; decide)] at hlay
  have hst := (u_facts hfc hkC (u_lays hts hin hk) hi).1
  have h6 := u_store hfc hkC hkind hlay hi hd hn hfit
  refine va_WputK S.1 S.2.1 (f := f) hown (va_Nw.use rfl hlink) (hsame _ hi) hst (by rw [q2]; exact h6) q1 q3 (by rw [hsl]; exact k2_hasslot (q4 k hk)) rfl rfl hdg fun H' e1 e2 e3 => ?_
  rw [hsl] at e1
  exact kk H' _ (hG.put he ⟨_, hc, t_OB.to (V := updV (vp_V fs) k v) ⟨_, e1, q2, q3, t_set q4 hap hk v⟩ (fun j _ => vp_updV_set hl v j)⟩ e2 e3)
/-- aastore of an object of ours -/
theorem g_aast {cA : ClassId} {r : vw_C} {n v ci : Nat} {vs : List Value} {f : Nat → Option Nat} {i : Int32} (S : CallFix p m c cc nL s args Ts own) (hK : va_K D cl tys s) (hG : gS A H0 D cl G H locs) (he : G a = some (.inl (cA, n, .inr (.inr (.inr (.inr f)))))) (t0 : Nat) (ht : tys[t0]? = some (cA, .object r.1)) (hv : G v = some (.inr (ci, vs))) (hc : cl[ci]? = some r) (hin : vp_in i n) (hdg : decode cc pc = .ok (.aastore, 1))
    (kk : ∀ (H1 : Heap) (locs1 : List Loc), gS A H0 D cl (gup G a (.inl (cA, n, .inr (.inr (.inr (.inr (va_up f i.toNatClampNeg (some v)))))))) H1 locs1 → W p l e R s m args below meth c H1 locs1 cells slots Q (F0 m (pc + 1) ls rest)) : W p l e R s m args below meth c H locs cells slots Q (F0 m pc ls (.ref v :: .int i :: .ref a :: rest)) := by
  have hlt : i.toNatClampNeg < n := Nat.not_le.mp fun q => hin (Or.inr q)
  have h0 : ¬ i < 0 := fun q => hin (Or.inl q)
  obtain ⟨r', hr', cellV, g1, g2, g3, -⟩ := hG.1 v _ hv
  have hcls := (hK.1 ci r hc).2
  obtain ⟨kA, comp, k1, k2, k3, -⟩ := (hK.2 t0 _ ht).2
  have hcomp : comp = D.1 ci := Option.some.inj (k3.symm.trans hcls.1)
  subst hcomp
  obtain ⟨kC, hkC, -⟩ := hcls.2
  refine W.aast S.1 S.2.1 (hG.1 a _ he) (fun q h => by cases h) (fun h => by cases h) k1 k2 rfl hkC ⟨h0, by show _ < (arrV _ _ _).slots.size; rw [arrV_size]; exact hlt⟩ g1 (fun q h => by rw [g3] at h; cases h) (by rw [g2]; exact hkC) (by rw [g2]; exact va_assign hcls) rfl rfl hdg fun H1 e1 z oq => ?_
  refine kk H1 _ (hG.put he ?_ z oq)
  show H1[a]? = some (vp_cell _ _)
  rw [e1]
  rw [vp_cell_q, vp_cell_q, arrV_store]
  congr 2
  funext q
  by_cases hq : q = i.toNatClampNeg
  · subst hq
    simp [updV, va_up, va_rf]
  · simp [updV, va_up, hq]
/-- newarray of numbers -/
theorem g_newa {atype : ArrayType} {ty : FieldType} {cA : ClassId} {n : Int32} {N' : Nat} {a0 : vp_A} (S : CallFix p m c cc nL s args Ts own) (hK : va_K D cl tys s) (hG : gS A H0 D cl G H locs) (harr : Cond.arrayClass (newarray.typeOf atype) ∈ Ts) (hty : newarray.typeOf atype = ty) (t0 : Nat) (ht : tys[t0]? = some (cA, ty)) (hRA : va_RA s cA ty → s.vm.findClass ("[" ++ ty.toString) = some cA) (ha : ∀ cA : ClassId, vp_cell cA a0 = arrV cA N' (fun _ => defaultValue ty)) (hn : ¬ n < 0) (hN : n.toNatClampNeg = N') (hbytes : N' * componentBytes ty ≤ 536870912) (hcells : cells + 1 ≤ R.cells) (hslots : slots + N' ≤ R.slots) (hdg : decode cc pc = .ok (.newarray atype, 2))
    (kk : ∀ (q : Nat) (H1 : Heap), q = H.size → G q = none → gS A H0 D cl (gup G q (.inl (cA, a0))) H1 locs → W p l e R s m args below meth c H1 locs (cells + 1) (slots + N') Q (F0 m (pc + 2) ls (.ref q :: rest))) : W p l e R s m args below meth c H locs cells slots Q (F0 m pc ls (.int n :: rest)) := by
  subst hty
  refine va_newaK S.1 S.2.1 (S.2.2.2.2 _ harr) rfl hdg rfl hn hN hbytes hcells hslots rfl fun H1 cB e1 z1 o1 hAr hNm => ?_
  have hc : cB = cA := Option.some.inj (hNm.symm.trans (hRA (hK.2 t0 _ ht).2))
  subst hc
  refine kk H.size H1 rfl (hG.1.fresh (Nat.le_refl _)) (hG.push ?_ (by omega) o1)
  show H1[H.size]? = some (vp_cell _ _)
  rw [ha]
  exact e1
/-- anewarray -/
theorem g_newq {C : String} {cA : ClassId} {index : Nat} {n : Int32} {N' : Nat} (S : CallFix p m c cc nL s args Ts own) (hK : va_K D cl tys s) (hG : gS A H0 D cl G H locs) (hclink : Cond.classLink own index C ∈ Ts) (hover : va_AO C s) (t0 : Nat) (ht : tys[t0]? = some (cA, .object C)) (hn : ¬ n < 0) (hN : n.toNatClampNeg = N') (hbytes : N' * 4 ≤ 536870912) (hcells : cells + 1 ≤ R.cells) (hslots : slots + N' ≤ R.slots) (hdg : decode cc pc = .ok (.anewarray index, 3))
    (kk : ∀ (q : Nat) (H1 : Heap), q = H.size → G q = none → gS A H0 D cl (gup G q (.inl (cA, N', .inr (.inr (.inr (.inr (fun _ => none))))))) H1 locs → W p l e R s m args below meth c H1 locs (cells + 1) (slots + N') Q (F0 m (pc + 3) ls (.ref q :: rest))) : W p l e R s m args below meth c H locs cells slots Q (F0 m pc ls (.int n :: rest)) := by
  subst hN
  refine W.anew S.1 S.2.1 S.2.2.2.1 (S.2.2.2.2 _ hclink) (va_AO.use hover) rfl hdg rfl hn hbytes hcells hslots fun cB kA comp f1 f2 f3 f4 => ?_
  obtain ⟨kA', comp', -, -, -, f5⟩ := (hK.2 t0 _ ht).2
  have hc : cB = cA := Option.some.inj (f1.symm.trans f5)
  subst hc
  generalize hH1 : H.push ({ cls := cB, slots := Array.replicate n.toNatClampNeg .null, vm := .none } : Cell) = H1
  have z1 : H1.size = H.size + 1 := by rw [← hH1, Array.size_push]
  have e1 : H1[H.size]? = some (arrV cB n.toNatClampNeg (fun _ => .null)) := by rw [← hH1, Array.getElem?_push_size, ← arrV_new]
  have o1 : ∀ q : Nat, q < H.size → H1[q]? = H[q]? := fun q hq => by rw [← hH1, Array.getElem?_push, if_neg (Nat.ne_of_lt hq)]
  refine kk H.size H1 rfl (hG.1.fresh (Nat.le_refl _)) (hG.push ?_ (by omega) o1)
  show H1[H.size]? = some (vp_cell _ _)
  rw [vp_cell_q]
  exact e1
end GMORE
/-! the words of the three throws -/
theorem hat_44 : ∀ w ∈ vx_atS "PackSeeds" 44 "java/lang/UnsupportedOperationException" ["java/lang/RuntimeException", "java/lang/Exception"], w ∈ Gall ∨ w ∈ gNw := by decide +kernel
theorem hat_60 : ∀ w ∈ vx_atS "PackSeeds" 60 "java/lang/IllegalArgumentException" ["java/lang/RuntimeException", "java/lang/Exception"], w ∈ Gall ∨ w ∈ gNw := by decide +kernel
theorem hat_92 : ∀ w ∈ vx_atS "PackSeeds" 92 "java/lang/IndexOutOfBoundsException" ["java/lang/RuntimeException", "java/lang/Exception"], w ∈ Gall ∨ w ∈ gNw := by decide +kernel
theorem hgd_44 : ∀ w ∈ Cond.classLink "PackSeeds" 40 "java/lang/UnsupportedOperationException" :: Cond.initialized "java/lang/UnsupportedOperationException" :: vx_atS "PackSeeds" 44 "java/lang/UnsupportedOperationException" ["java/lang/RuntimeException", "java/lang/Exception"], vx_ot w = true := by decide +kernel
theorem hgd_60 : ∀ w ∈ Cond.classLink "PackSeeds" 56 "java/lang/IllegalArgumentException" :: Cond.initialized "java/lang/IllegalArgumentException" :: vx_atS "PackSeeds" 60 "java/lang/IllegalArgumentException" ["java/lang/RuntimeException", "java/lang/Exception"], vx_ot w = true := by decide +kernel
theorem hgd_92 : ∀ w ∈ Cond.classLink "PackSeeds" 88 "java/lang/IndexOutOfBoundsException" :: Cond.initialized "java/lang/IndexOutOfBoundsException" :: vx_atS "PackSeeds" 92 "java/lang/IndexOutOfBoundsException" ["java/lang/RuntimeException", "java/lang/Exception"], vx_ot w = true := by decide +kernel
end
section
def okP (pt : Nat → Option Nat) (pd : Nat → Pat) (n : Int32) (j : Nat) : Prop := j < 24 ∧ n = nI j ∧ (prN pt pd j).isSome = true
theorem prI_some {pt : Nat → Option Nat} {pd : Nat → Pat} {n : Int32} {a : Nat} (h : prI pt pd n = some a) : ∃ j, j < 24 ∧ n = nI j ∧ pt j = some a ∧ pgn (pd j) = 0 := by
  rcases pk_ix n (n := 24) (by omega) with h9 | h9 | ⟨j, hj, rfl⟩
  · simp [prI, h9] at h
  · have : ¬ n < nI 24 := by rw [Int32.lt_iff_toInt_lt]; rw [Int32.le_iff_toInt_le] at h9; omega
    simp [prI, this] at h
  · rw [prI_nat _ _ hj] at h
    exact ⟨j, hj, rfl, prN_some h.symm⟩
theorem prI_none {pt : Nat → Option Nat} {pd : Nat → Pat} {n : Int32} (h : prI pt pd n = none) : ∀ j, ¬ okP pt pd n j := by
  intro j ⟨hj, hn, hs⟩
  subst hn
  rw [prI_nat _ _ hj] at h
  rw [h] at hs
  cases hs
theorem okP_of {pt : Nat → Option Nat} {pd : Nat → Pat} {n : Int32} {a j : Nat} (hj : j < 24) (hn : n = nI j) (hp : pt j = some a) (hg : pgn (pd j) = 0) : okP pt pd n j := ⟨hj, hn, by simp [prN, hp, hg]⟩
def cntF (pt : Nat → Option Nat) (pd : Nat → Pat) (b : Int32) (n : Nat) : Nat := itr (fun k a => if (prN pt pd k).isSome ∧ ¬ pfa (pd k) &&& b = 0 then a + 1 else a) 0 n
def sgC (stg tp fk : Int32) (C E : Nat) (pt : Nat → Option Nat) (pd : Nat → Pat) (f n : Nat) : Int32 := itr (fun k a => if (prN pt pd (f + k)).isSome then tkC stg tp C E (bitsC stg tp fk C E (pd (f + k)) &&& (pmk (pd (f + k)) ^^^ (-1))) a E else a) 0 n
def shI (bits : Int32) (k : Nat) (b : Int64) (n : Nat) : Int64 := itr (fun j a => if (bits &&& plC (nI k) (nI j) = 0) ↔ (bits &&& plC (nI k) (nI (j + 1)) = 0) then a else a + (nI (j + 1)).toInt64) b n
def shC (bits : Int32) (E : Nat) (n : Nat) : Int64 := itr (fun k a => shI bits k a (E - 1)) 0 n
def frC (D n : Nat) : Nat := n - D
end
section
set_option maxHeartbeats 4000000 in
set_option maxRecDepth 100000 in
theorem c_ps_present (l : Launch) (hl9 : l.stackTraces = false) (Z : gZ) (G : gh) (sz : Nat) (x : Nat) {sh ma pa : Nat} {mad fk : Int32} (hx0 : G x = some (.inr (0, [.ref sh, .ref ma, .ref pa, .int mad, .int fk]))) {pt : Nat → Option Nat} {pd : Nat → Pat} (hpa : G pa = some (.inl (Z.2 3, 24, .inr (.inr (.inr (.inr pt)))))) (hpt : ∀ i a, i < 24 → pt i = some a → G a = some (.inr (3, pfs (pd i)))) (n : Int32) : vx_Met l y_ps_present (wd_ps_present :: Gall) ({ frames := 6, cells := 1, slots := 6, locals := 90 }) (va_Pc [.ref x, .int n] (gPx Z G sz)) (va_Sq (fun r : Option Nat => ∃ a j, r = some a ∧ j < 24 ∧ n = nI j ∧ pt j = some a ∧ pgn (pd j) = 0)) (gXC (fun X9 : String => X9 = "java/lang/IndexOutOfBoundsException" ∧ ∀ j, ¬ okP pt pd n j) sz) 1 6 (fun q => sz ≤ q) := by
  refine vx_ofW (cc := b_ps_present) (maxL := 3) (ret := (some (.object "PackSeeds$Pattern"))) (by decide) rfl ?_
  intro p e s m args below meth c s₁ B hml htab hv
  obtain ⟨rfl, hsz, ⟨hG, hE⟩, hX⟩ := hv
  subst hsz
  have hx := B.exec
  have hb := B.bytes
  have hr := B.returns
  have hlocks := B.notSynchronized
  have S : CallFix p m c b_ps_present 3 s _ Gall "PackSeeds" := ⟨hx, hb, hml, findClass_of_methodNamed B.named, fun w hw => atoms_spec (ws := wd_ps_present :: Gall) B.pre w (List.mem_cons_of_mem _ hw)⟩
  have hGS : gS (gA G s.heap.size) s.heap Z.1 cls G s.heap [] := gS.start hG
  have hl := lv_entry ([.ref x, .int n]) (n := 3) (Nat.le_of_ble_eq_true rfl)
  rw [lg_entry_eq]
  generalize (lg_sl ([.ref x, .int n]) ++ List.replicate (3 - (lg_sl ([.ref x, .int n])).length) Slot.unset).toArray = ls at hl ⊢
  have hl : lv_has ls 3 [(0, .ref x), (1, .int n)] := hl
  refine lv_aload_n hx hb d_ps_present_0 rfl (lv_at hl 0 rfl) ?_
  refine lv_iload_n hx hb d_ps_present_1 rfl (lv_at hl 1 rfl) ?_
  refine g_retq (g_runV (As := [.int n]) (rest := []) S lk_ps_65 k_ps_presentOrNull (c_ps_presentOrNull l Z G x hx0 hpa hpt n) ⟨rfl, rfl⟩ ⟨Nat.le_of_ble_eq_true rfl, Nat.le_of_ble_eq_true rfl⟩ (gPreV hG hE hx0 rfl) rfl hl.1 rfl (Nat.le_of_ble_eq_true rfl) d_ps_present_2 ⟨Nat.le_of_ble_eq_true rfl, Nat.le_of_ble_eq_true rfl⟩) (fun r2 h2 => ?_)
  cases r2 with
  | none =>
    refine lv_astore_nN (lv' := [(2, .null), (0, .ref x), (1, .int n)]) hx hb d_ps_present_5 rfl hl (by decide) rfl (fun ls hl => ?_)
    refine lv_aload_nN hx hb d_ps_present_6 rfl (lv_at hl 0 rfl) ?_
    refine lv_ifnonnullN hx hb d_ps_present_7 ?_
    exact g_throw (text := "there is no such pattern, or it is gone") S hE hl9 hX (by decide) (by decide +kernel) tw_256 tw_11 hat_92 hgd_92 (fun _ h => nomatch h) (fun _ h => nomatch h) hl.1 d_ps_present_10 d_ps_present_13 d_ps_present_14 d_ps_present_16 d_ps_present_19 htab (Nat.le_of_ble_eq_true rfl) (Nat.le_of_ble_eq_true rfl) (Nat.le_of_ble_eq_true rfl) (Nat.le_of_ble_eq_true rfl) hlocks ⟨rfl, prI_none h2.symm⟩ (Nat.le_of_ble_eq_true rfl) (Nat.le_of_ble_eq_true rfl)
  | some a2 =>
    refine lv_astore_n (lv' := [(2, .ref a2), (0, .ref x), (1, .int n)]) hx hb d_ps_present_5 rfl hl (by decide) rfl (fun ls hl => ?_)
    refine lv_aload_n hx hb d_ps_present_6 rfl (lv_at hl 0 rfl) ?_
    refine lv_ifnonnull (tgt := 20) hx hb d_ps_present_7 (by decide) ?_
    refine lv_aload_n hx hb d_ps_present_20 rfl (lv_at hl 0 rfl) ?_
    refine W.widen (k := 1) (n := 6) (Nat.le_of_ble_eq_true rfl) (Nat.le_of_ble_eq_true rfl) ?_
    exact vx_ret (W.aret hx hb hr (Or.inl ⟨_, rfl⟩) (va_rf_or (some a2)) (fun t9 ht9 hW9 => ⟨some a2, rfl, (by obtain ⟨j, h⟩ := prI_some h2.symm; exact ⟨a2, j, rfl, h⟩), ht9⟩) (fun _ h => nomatch h) d_ps_present_21)

set_option maxHeartbeats 4000000 in
set_option maxRecDepth 100000 in
theorem c_ps_existingPlace (l : Launch) (hl9 : l.stackTraces = false) (Z : gZ) (G : gh) (sz : Nat) (x : Nat) {sh ma pa : Nat} {mad fk : Int32} (hx0 : G x = some (.inr (0, [.ref sh, .ref ma, .ref pa, .int mad, .int fk]))) {C E : Nat} (hs : G sh = some (.inr (1, [.int (nI C), .int (nI E)]))) (hC : C ≤ 4) (hE8 : E ≤ 8) (c0 e0 : Int32) : vx_Met l y_ps_existingPlace (wd_ps_existingPlace :: Gall) ({ frames := 6, cells := 1, slots := 6, locals := 90 }) (va_Pc [.ref x, .int c0, .int e0] (gPx Z G sz)) (vp_Si (fun r : Int32 => ∃ k j, k < C ∧ j < E ∧ c0 = nI k ∧ e0 = nI j ∧ r = plC (nI k) (nI j))) (gXC (fun X9 : String => X9 = "java/lang/IndexOutOfBoundsException" ∧ ¬ ∃ k j, k < C ∧ j < E ∧ c0 = nI k ∧ e0 = nI j) sz) 1 6 (fun q => sz ≤ q) := by
  refine vx_ofW (cc := b_ps_existingPlace) (maxL := 3) (ret := (some .int)) (by decide) rfl ?_
  intro p e s m args below meth c s₁ B hml htab hv
  obtain ⟨rfl, hsz, ⟨hG, hE⟩, hX⟩ := hv
  subst hsz
  have hx := B.exec
  have hb := B.bytes
  have hr := B.returns
  have hlocks := B.notSynchronized
  have S : CallFix p m c b_ps_existingPlace 3 s _ Gall "PackSeeds" := ⟨hx, hb, hml, findClass_of_methodNamed B.named, fun w hw => atoms_spec (ws := wd_ps_existingPlace :: Gall) B.pre w (List.mem_cons_of_mem _ hw)⟩
  have hGS : gS (gA G s.heap.size) s.heap Z.1 cls G s.heap [] := gS.start hG
  have hl := lv_entry ([.ref x, .int c0, .int e0]) (n := 3) (Nat.le_of_ble_eq_true rfl)
  rw [lg_entry_eq]
  generalize (lg_sl ([.ref x, .int c0, .int e0]) ++ List.replicate (3 - (lg_sl ([.ref x, .int c0, .int e0])).length) Slot.unset).toArray = ls at hl ⊢
  have hl : lv_has ls 3 [(0, .ref x), (1, .int c0), (2, .int e0)] := hl
  refine lv_iload_n hx hb d_ps_existingPlace_0 rfl (lv_at hl 1 rfl) ?_
  refine lv_if_lt (tgt := 30) hx hb d_ps_existingPlace_1 (by decide) (fun c1 => ?_) (fun c1 => ?_)
  · exact g_throw (text := "there is no such chain or cell") S hE hl9 hX (by decide) (by decide +kernel) tw_256 tw_11 hat_92 hgd_92 (fun _ h => nomatch h) (fun _ h => nomatch h) hl.1 d_ps_existingPlace_30 d_ps_existingPlace_33 d_ps_existingPlace_34 d_ps_existingPlace_36 d_ps_existingPlace_39 htab (Nat.le_of_ble_eq_true rfl) (Nat.le_of_ble_eq_true rfl) (Nat.le_of_ble_eq_true rfl) (Nat.le_of_ble_eq_true rfl) hlocks ⟨rfl, by rintro ⟨k, j, hk, hj, e1, e2⟩; subst e1; subst e2; first | exact absurd c1 (nI_pos (by omega)) | exact absurd c12 (nI_ge hk (by omega)) | exact absurd c16 (nI_pos (by omega)) | exact absurd (nI_lt hj (by omega)) c27⟩ (Nat.le_of_ble_eq_true rfl) (Nat.le_of_ble_eq_true rfl)
  · refine lv_iload_n hx hb d_ps_existingPlace_4 rfl (lv_at hl 1 rfl) ?_
    refine lv_aload_n hx hb d_ps_existingPlace_5 rfl (lv_at hl 0 rfl) ?_
    refine g_get S hE.1 hG hx0 rfl in_ps 0 (by decide) tw_68 (fun _ h9 => h9) rfl d_ps_existingPlace_6 ?_
    refine g_getN S hE.1 hG hs rfl in_sh 0 (by decide) (hE.2 _ nw_2) (fun _ h9 => h9) rfl d_ps_existingPlace_9 ?_
    refine lv_icmp_ge (tgt := 30) hx hb d_ps_existingPlace_12 (by decide) (fun c12 => ?_) (fun c12 => ?_)
    · exact g_throw (text := "there is no such chain or cell") S hE hl9 hX (by decide) (by decide +kernel) tw_256 tw_11 hat_92 hgd_92 (fun _ h => nomatch h) (fun _ h => nomatch h) hl.1 d_ps_existingPlace_30 d_ps_existingPlace_33 d_ps_existingPlace_34 d_ps_existingPlace_36 d_ps_existingPlace_39 htab (Nat.le_of_ble_eq_true rfl) (Nat.le_of_ble_eq_true rfl) (Nat.le_of_ble_eq_true rfl) (Nat.le_of_ble_eq_true rfl) hlocks ⟨rfl, by rintro ⟨k, j, hk, hj, e1, e2⟩; subst e1; subst e2; first | exact absurd c1 (nI_pos (by omega)) | exact absurd c12 (nI_ge hk (by omega)) | exact absurd c16 (nI_pos (by omega)) | exact absurd (nI_lt hj (by omega)) c27⟩ (Nat.le_of_ble_eq_true rfl) (Nat.le_of_ble_eq_true rfl)
    · refine lv_iload_n hx hb d_ps_existingPlace_15 rfl (lv_at hl 2 rfl) ?_
      refine lv_if_lt (tgt := 30) hx hb d_ps_existingPlace_16 (by decide) (fun c16 => ?_) (fun c16 => ?_)
      · exact g_throw (text := "there is no such chain or cell") S hE hl9 hX (by decide) (by decide +kernel) tw_256 tw_11 hat_92 hgd_92 (fun _ h => nomatch h) (fun _ h => nomatch h) hl.1 d_ps_existingPlace_30 d_ps_existingPlace_33 d_ps_existingPlace_34 d_ps_existingPlace_36 d_ps_existingPlace_39 htab (Nat.le_of_ble_eq_true rfl) (Nat.le_of_ble_eq_true rfl) (Nat.le_of_ble_eq_true rfl) (Nat.le_of_ble_eq_true rfl) hlocks ⟨rfl, by rintro ⟨k, j, hk, hj, e1, e2⟩; subst e1; subst e2; first | exact absurd c1 (nI_pos (by omega)) | exact absurd c12 (nI_ge hk (by omega)) | exact absurd c16 (nI_pos (by omega)) | exact absurd (nI_lt hj (by omega)) c27⟩ (Nat.le_of_ble_eq_true rfl) (Nat.le_of_ble_eq_true rfl)
      · refine lv_iload_n hx hb d_ps_existingPlace_19 rfl (lv_at hl 2 rfl) ?_
        refine lv_aload_n hx hb d_ps_existingPlace_20 rfl (lv_at hl 0 rfl) ?_
        refine g_get S hE.1 hG hx0 rfl in_ps 0 (by decide) tw_68 (fun _ h9 => h9) rfl d_ps_existingPlace_21 ?_
        refine g_getN S hE.1 hG hs rfl in_sh 1 (by decide) (hE.2 _ nw_4) (fun _ h9 => h9) rfl d_ps_existingPlace_24 ?_
        refine lv_icmp_lt (tgt := 40) hx hb d_ps_existingPlace_27 (by decide) (fun c27 => ?_) (fun c27 => ?_)
        · obtain ⟨k, hk, hck⟩ : ∃ k : Nat, k < C ∧ c0 = nI k := by
            rcases pk_ix c0 (n := C) (by omega) with h9 | h9 | h9
            · exact absurd h9 c1
            · exact absurd h9 c12
            · exact h9
          obtain ⟨j, hj, hej⟩ : ∃ j : Nat, j < E ∧ e0 = nI j := by
            rcases pk_ix e0 (n := E) (by omega) with h9 | h9 | h9
            · exact absurd h9 c16
            · exact absurd c27 (by rw [Int32.lt_iff_toInt_lt]; rw [Int32.le_iff_toInt_le] at h9; omega)
            · exact h9
          subst hck
          subst hej
          refine lv_iload_n hx hb d_ps_existingPlace_40 rfl (lv_at hl 1 rfl) ?_
          refine lv_iload_n hx hb d_ps_existingPlace_41 rfl (lv_at hl 2 rfl) ?_
          refine g_reti (g_runS (As := [.int (nI k), .int (nI j)]) (rest := []) S lk_ps_168 k_ps_place (c_ps_place l Z G (nI k) (nI j)) ⟨rfl, rfl⟩ ⟨Nat.le_of_ble_eq_true rfl, Nat.le_of_ble_eq_true rfl⟩ (gPreS hG hE) rfl hl.1 rfl (Nat.le_of_ble_eq_true rfl) d_ps_existingPlace_42 ⟨Nat.le_of_ble_eq_true rfl, Nat.le_of_ble_eq_true rfl⟩) (fun r42 h42 => ?_)
          refine W.widen (k := 1) (n := 6) (Nat.le_of_ble_eq_true rfl) (Nat.le_of_ble_eq_true rfl) ?_
          exact vx_ret (W.iret hx hb hr (fun t9 ht9 hW9 => ⟨_, rfl, ⟨k, j, hk, hj, rfl, rfl, h42⟩, ht9⟩) (fun _ h => nomatch h) d_ps_existingPlace_45)
        · exact g_throw (text := "there is no such chain or cell") S hE hl9 hX (by decide) (by decide +kernel) tw_256 tw_11 hat_92 hgd_92 (fun _ h => nomatch h) (fun _ h => nomatch h) hl.1 d_ps_existingPlace_30 d_ps_existingPlace_33 d_ps_existingPlace_34 d_ps_existingPlace_36 d_ps_existingPlace_39 htab (Nat.le_of_ble_eq_true rfl) (Nat.le_of_ble_eq_true rfl) (Nat.le_of_ble_eq_true rfl) (Nat.le_of_ble_eq_true rfl) hlocks ⟨rfl, by rintro ⟨k, j, hk, hj, e1, e2⟩; subst e1; subst e2; first | exact absurd c1 (nI_pos (by omega)) | exact absurd c12 (nI_ge hk (by omega)) | exact absurd c16 (nI_pos (by omega)) | exact absurd (nI_lt hj (by omega)) c27⟩ (Nat.le_of_ble_eq_true rfl) (Nat.le_of_ble_eq_true rfl)

set_option maxHeartbeats 4000000 in
set_option maxRecDepth 100000 in
theorem c_ps_existingFault (l : Launch) (hl9 : l.stackTraces = false) (Z : gZ) (G : gh) (sz : Nat) (f0 : Int32) : vx_Met l y_ps_existingFault (wd_ps_existingFault :: Gall) ({ frames := 6, cells := 1, slots := 6, locals := 90 }) (va_Pc [.int f0] (gPx Z G sz)) (vp_Si (fun r : Int32 => ∃ k, k < 31 ∧ f0 = nI k ∧ r = (1 : Int32) <<< (nI k &&& 31))) (gXC (fun X9 : String => X9 = "java/lang/IndexOutOfBoundsException" ∧ ¬ ∃ k, k < 31 ∧ f0 = nI k) sz) 1 6 (fun q => sz ≤ q) := by
  refine vx_ofW (cc := b_ps_existingFault) (maxL := 1) (ret := (some .int)) (by decide) rfl ?_
  intro p e s m args below meth c s₁ B hml htab hv
  obtain ⟨rfl, hsz, ⟨hG, hE⟩, hX⟩ := hv
  subst hsz
  have hx := B.exec
  have hb := B.bytes
  have hr := B.returns
  have hlocks := B.notSynchronized
  have S : CallFix p m c b_ps_existingFault 1 s _ Gall "PackSeeds" := ⟨hx, hb, hml, findClass_of_methodNamed B.named, fun w hw => atoms_spec (ws := wd_ps_existingFault :: Gall) B.pre w (List.mem_cons_of_mem _ hw)⟩
  have hGS : gS (gA G s.heap.size) s.heap Z.1 cls G s.heap [] := gS.start hG
  have hl := lv_entry ([.int f0]) (n := 1) (Nat.le_of_ble_eq_true rfl)
  rw [lg_entry_eq]
  generalize (lg_sl ([.int f0]) ++ List.replicate (1 - (lg_sl ([.int f0])).length) Slot.unset).toArray = ls at hl ⊢
  have hl : lv_has ls 1 [(0, .int f0)] := hl
  refine lv_iload_n hx hb d_ps_existingFault_0 rfl (lv_at hl 0 rfl) ?_
  refine lv_if_lt (tgt := 10) hx hb d_ps_existingFault_1 (by decide) (fun c1 => ?_) (fun c1 => ?_)
  · exact g_throw (text := "there is no such fault") S hE hl9 hX (by decide) (by decide +kernel) tw_256 tw_11 hat_92 hgd_92 (fun _ h => nomatch h) (fun _ h => nomatch h) hl.1 d_ps_existingFault_10 d_ps_existingFault_13 d_ps_existingFault_14 d_ps_existingFault_16 d_ps_existingFault_19 htab (Nat.le_of_ble_eq_true rfl) (Nat.le_of_ble_eq_true rfl) (Nat.le_of_ble_eq_true rfl) (Nat.le_of_ble_eq_true rfl) hlocks ⟨rfl, by rintro ⟨k, hk, e1⟩; subst e1; first | exact absurd c1 (nI_pos (by omega)) | exact absurd (nI_lt hk (by omega)) c7⟩ (Nat.le_of_ble_eq_true rfl) (Nat.le_of_ble_eq_true rfl)
  · refine lv_iload_n hx hb d_ps_existingFault_4 rfl (lv_at hl 0 rfl) ?_
    refine lv_bipush (v := nI 31) hx hb d_ps_existingFault_5 (by decide) ?_
    refine lv_icmp_lt (tgt := 20) hx hb d_ps_existingFault_7 (by decide) (fun c7 => ?_) (fun c7 => ?_)
    · obtain ⟨k, hk, hck⟩ : ∃ k : Nat, k < 31 ∧ f0 = nI k := by
        rcases pk_ix f0 (n := 31) (by omega) with h9 | h9 | h9
        · exact absurd h9 c1
        · exact absurd c7 (by rw [Int32.lt_iff_toInt_lt]; rw [Int32.le_iff_toInt_le] at h9; omega)
        · exact h9
      subst hck
      refine lv_iconst (v := 1) hx hb d_ps_existingFault_20 (by decide) ?_
      refine lv_iload_n hx hb d_ps_existingFault_21 rfl (lv_at hl 0 rfl) ?_
      refine lv_ishl hx hb d_ps_existingFault_22 ?_
      refine W.widen (k := 1) (n := 6) (Nat.le_of_ble_eq_true rfl) (Nat.le_of_ble_eq_true rfl) ?_
      exact vx_ret (W.iret hx hb hr (fun t9 ht9 hW9 => ⟨_, rfl, ⟨k, hk, rfl, rfl⟩, ht9⟩) (fun _ h => nomatch h) d_ps_existingFault_23)
    · exact g_throw (text := "there is no such fault") S hE hl9 hX (by decide) (by decide +kernel) tw_256 tw_11 hat_92 hgd_92 (fun _ h => nomatch h) (fun _ h => nomatch h) hl.1 d_ps_existingFault_10 d_ps_existingFault_13 d_ps_existingFault_14 d_ps_existingFault_16 d_ps_existingFault_19 htab (Nat.le_of_ble_eq_true rfl) (Nat.le_of_ble_eq_true rfl) (Nat.le_of_ble_eq_true rfl) (Nat.le_of_ble_eq_true rfl) hlocks ⟨rfl, by rintro ⟨k, hk, e1⟩; subst e1; first | exact absurd c1 (nI_pos (by omega)) | exact absurd (nI_lt hk (by omega)) c7⟩ (Nat.le_of_ble_eq_true rfl) (Nat.le_of_ble_eq_true rfl)

set_option maxHeartbeats 4000000 in
set_option maxRecDepth 100000 in
theorem c_ps_seedOf (l : Launch) (hl9 : l.stackTraces = false) (Z : gZ) (G : gh) (sz : Nat) (x : Nat) {sh ma pa : Nat} {mad fk : Int32} (hx0 : G x = some (.inr (0, [.ref sh, .ref ma, .ref pa, .int mad, .int fk]))) {pt : Nat → Option Nat} {pd : Nat → Pat} (hpa : G pa = some (.inl (Z.2 3, 24, .inr (.inr (.inr (.inr pt)))))) (hpt : ∀ i a, i < 24 → pt i = some a → G a = some (.inr (3, pfs (pd i)))) (n : Int32) : vx_Met l y_ps_seedOf (wd_ps_seedOf :: Gall) ({ frames := 7, cells := 1, slots := 6, locals := 112 }) (va_Pc [.ref x, .int n] (gPx Z G sz)) (vp_Si (fun r : Int32 => ∃ j, okP pt pd n j ∧ r = psd (pd j))) (gXC (fun X9 : String => X9 = "java/lang/IndexOutOfBoundsException" ∧ ∀ j, ¬ okP pt pd n j) sz) 1 6 (fun q => sz ≤ q) := by
  refine vx_ofW (cc := b_ps_seedOf) (maxL := 2) (ret := (some .int)) (by decide) rfl ?_
  intro p e s m args below meth c s₁ B hml htab hv
  obtain ⟨rfl, hsz, ⟨hG, hE⟩, hX⟩ := hv
  subst hsz
  have hx := B.exec
  have hb := B.bytes
  have hr := B.returns
  have hlocks := B.notSynchronized
  have S : CallFix p m c b_ps_seedOf 2 s _ Gall "PackSeeds" := ⟨hx, hb, hml, findClass_of_methodNamed B.named, fun w hw => atoms_spec (ws := wd_ps_seedOf :: Gall) B.pre w (List.mem_cons_of_mem _ hw)⟩
  have hGS : gS (gA G s.heap.size) s.heap Z.1 cls G s.heap [] := gS.start hG
  have hl := lv_entry ([.ref x, .int n]) (n := 2) (Nat.le_of_ble_eq_true rfl)
  rw [lg_entry_eq]
  generalize (lg_sl ([.ref x, .int n]) ++ List.replicate (2 - (lg_sl ([.ref x, .int n])).length) Slot.unset).toArray = ls at hl ⊢
  have hl : lv_has ls 2 [(0, .ref x), (1, .int n)] := hl
  refine lv_aload_n hx hb d_ps_seedOf_0 rfl (lv_at hl 0 rfl) ?_
  refine lv_iload_n hx hb d_ps_seedOf_1 rfl (lv_at hl 1 rfl) ?_
  refine g_xretq (Nat.le_refl _) (g_xrunV (As := [.int n]) (rest := []) S lk_ps_48 k_ps_present (c_ps_present l hl9 Z G s.heap.size x hx0 hpa hpt n) ⟨rfl, rfl⟩ ⟨(Nat.le_of_ble_eq_true rfl), (Nat.le_of_ble_eq_true rfl)⟩ (gPxV hGS hE hX hx0 rfl) rfl hl.1 rfl (Nat.le_of_ble_eq_true rfl) d_ps_seedOf_2 ⟨(Nat.le_of_ble_eq_true rfl), (Nat.le_of_ble_eq_true rfl)⟩) (g_out htab hlocks (fun E h => h) (fun _ h => nomatch h) (Nat.le_of_ble_eq_true rfl) (Nat.le_of_ble_eq_true rfl)) (fun r2 h2 => ?_)
  obtain ⟨a2, j, hr2, hj, hnj, hpj, hgj⟩ := h2
  subst hr2
  refine g_getN S hE.1 hG (hpt j a2 hj hpj) rfl in_pt 4 (by decide) (hE.2 _ nw_22) (fun _ h9 => h9) rfl d_ps_seedOf_5 ?_
  refine W.widen (k := 1) (n := 6) (Nat.le_of_ble_eq_true rfl) (Nat.le_of_ble_eq_true rfl) ?_
  exact vx_ret (W.iret hx hb hr (fun t9 ht9 hW9 => ⟨_, rfl, ⟨j, (okP_of hj hnj hpj hgj), rfl⟩, ht9⟩) (fun _ h => nomatch h) d_ps_seedOf_8)

set_option maxHeartbeats 4000000 in
set_option maxRecDepth 100000 in
theorem c_ps_bit (l : Launch) (hl9 : l.stackTraces = false) (Z : gZ) (G : gh) (sz : Nat) (x : Nat) {sh ma pa : Nat} {mad fk : Int32} (hx0 : G x = some (.inr (0, [.ref sh, .ref ma, .ref pa, .int mad, .int fk]))) {C E : Nat} (hs : G sh = some (.inr (1, [.int (nI C), .int (nI E)]))) (hC : C ≤ 4) (hE8 : E ≤ 8) {ro : Nat} {stg tp : Int32} (hm : G ma = some (.inr (2, [.ref sh, .ref ro, .int stg, .int tp]))) {pt : Nat → Option Nat} {pd : Nat → Pat} (hpa : G pa = some (.inl (Z.2 3, 24, .inr (.inr (.inr (.inr pt)))))) (hpt : ∀ i a, i < 24 → pt i = some a → G a = some (.inr (3, pfs (pd i)))) (n c0 e0 : Int32) : vx_Met l y_ps_bit (wd_ps_bit :: Gall) ({ frames := 7, cells := 2, slots := 12, locals := 112 }) (va_Pc [.ref x, .int n, .int c0, .int e0] (gPx Z G sz)) (vp_Si (fun r : Int32 => ∃ j k q, okP pt pd n j ∧ k < C ∧ q < E ∧ c0 = nI k ∧ e0 = nI q ∧ r = if bitsC stg tp fk C E (pd j) &&& plC (nI k) (nI q) = 0 then 0 else 1)) (gXC (fun X9 : String => X9 = "java/lang/IndexOutOfBoundsException" ∧ ((∀ j, ¬ okP pt pd n j) ∨ ¬ ∃ k j, k < C ∧ j < E ∧ c0 = nI k ∧ e0 = nI j)) sz) 2 12 (fun q => sz ≤ q) := by
  refine vx_ofW (cc := b_ps_bit) (maxL := 6) (ret := (some .int)) (by decide) rfl ?_
  intro p e s m args below meth c s₁ B hml htab hv
  obtain ⟨rfl, hsz, ⟨hG, hE⟩, hX⟩ := hv
  subst hsz
  have hx := B.exec
  have hb := B.bytes
  have hr := B.returns
  have hlocks := B.notSynchronized
  have S : CallFix p m c b_ps_bit 6 s _ Gall "PackSeeds" := ⟨hx, hb, hml, findClass_of_methodNamed B.named, fun w hw => atoms_spec (ws := wd_ps_bit :: Gall) B.pre w (List.mem_cons_of_mem _ hw)⟩
  have hGS : gS (gA G s.heap.size) s.heap Z.1 cls G s.heap [] := gS.start hG
  have hl := lv_entry ([.ref x, .int n, .int c0, .int e0]) (n := 6) (Nat.le_of_ble_eq_true rfl)
  rw [lg_entry_eq]
  generalize (lg_sl ([.ref x, .int n, .int c0, .int e0]) ++ List.replicate (6 - (lg_sl ([.ref x, .int n, .int c0, .int e0])).length) Slot.unset).toArray = ls at hl ⊢
  have hl : lv_has ls 6 [(0, .ref x), (1, .int n), (2, .int c0), (3, .int e0)] := hl
  refine lv_aload_n hx hb d_ps_bit_0 rfl (lv_at hl 0 rfl) ?_
  refine lv_iload_n hx hb d_ps_bit_1 rfl (lv_at hl 1 rfl) ?_
  refine g_xretq (Nat.le_refl _) (g_xrunV (As := [.int n]) (rest := []) S lk_ps_48 k_ps_present (c_ps_present l hl9 Z G s.heap.size x hx0 hpa hpt n) ⟨rfl, rfl⟩ ⟨(Nat.le_of_ble_eq_true rfl), (Nat.le_of_ble_eq_true rfl)⟩ (gPxV hGS hE hX hx0 rfl) rfl hl.1 rfl (Nat.le_of_ble_eq_true rfl) d_ps_bit_2 ⟨(Nat.le_of_ble_eq_true rfl), (Nat.le_of_ble_eq_true rfl)⟩) (g_out htab hlocks (fun E h => ⟨h.1, Or.inl h.2⟩) (fun _ h => nomatch h) (Nat.le_of_ble_eq_true rfl) (Nat.le_of_ble_eq_true rfl)) (fun r2 h2 => ?_)
  obtain ⟨a2, j, hr2, hj, hnj, hpj, hgj⟩ := h2
  subst hr2
  refine lv_astore (lv' := [(4, .ref a2), (0, .ref x), (1, .int n), (2, .int c0), (3, .int e0)]) hx hb d_ps_bit_5 hl (by decide) rfl (fun ls hl => ?_)
  refine lv_aload_n hx hb d_ps_bit_7 rfl (lv_at hl 1 rfl) ?_
  refine lv_iload_n hx hb d_ps_bit_8 rfl (lv_at hl 3 rfl) ?_
  refine lv_iload_n hx hb d_ps_bit_9 rfl (lv_at hl 4 rfl) ?_
  refine g_xreti (Nat.le_refl _) (g_xrunV (As := [.int c0, .int e0]) (rest := []) S lk_ps_52 k_ps_existingPlace (c_ps_existingPlace l hl9 Z G s.heap.size x hx0 hs hC hE8 c0 e0) ⟨rfl, rfl⟩ ⟨(Nat.le_of_ble_eq_true rfl), (Nat.le_of_ble_eq_true rfl)⟩ (gPxV hGS hE hX hx0 rfl) rfl hl.1 rfl (Nat.le_of_ble_eq_true rfl) d_ps_bit_10 ⟨(Nat.le_of_ble_eq_true rfl), (Nat.le_of_ble_eq_true rfl)⟩) (g_out htab hlocks (fun E h => ⟨h.1, Or.inr h.2⟩) (fun _ h => nomatch h) (Nat.le_of_ble_eq_true rfl) (Nat.le_of_ble_eq_true rfl)) (fun r10 h10 => ?_)
  obtain ⟨k, q, hk, hq, hck, heq, hr10⟩ := h10
  refine lv_istore (lv' := [(5, .int r10), (4, .ref a2), (0, .ref x), (1, .int n), (2, .int c0), (3, .int e0)]) hx hb d_ps_bit_13 hl (by decide) rfl (fun ls hl => ?_)
  refine lv_aload_n hx hb d_ps_bit_15 rfl (lv_at hl 2 rfl) ?_
  refine lv_aload hx hb d_ps_bit_16 (lv_at hl 1 rfl) ?_
  refine g_reti (g_runV (As := [.ref a2]) (rest := []) S lk_ps_114 k_ps_bitsOf (c_ps_bitsOf l Z G x hx0 hs hC hE8 hm a2 (hpt j a2 hj hpj)) ⟨rfl, rfl⟩ ⟨Nat.le_of_ble_eq_true rfl, Nat.le_of_ble_eq_true rfl⟩ (gPreV hG hE hx0 rfl) rfl hl.1 rfl (Nat.le_of_ble_eq_true rfl) d_ps_bit_18 ⟨Nat.le_of_ble_eq_true rfl, Nat.le_of_ble_eq_true rfl⟩) (fun r18 h18 => ?_)
  refine lv_iload hx hb d_ps_bit_21 (lv_at hl 0 rfl) ?_
  refine lv_iand hx hb d_ps_bit_23 ?_
  refine lv_if_eq (tgt := 31) hx hb d_ps_bit_24 (by decide) (fun c24 => ?_) (fun c24 => ?_)
  · refine lv_iconst (v := 0) hx hb d_ps_bit_31 (by decide) ?_
    refine W.widen (k := 2) (n := 12) (Nat.le_of_ble_eq_true rfl) (Nat.le_of_ble_eq_true rfl) ?_
    exact vx_ret (W.iret hx hb hr (fun t9 ht9 hW9 => ⟨_, rfl, ⟨j, k, q, (okP_of hj hnj hpj hgj), hk, hq, hck, heq, by rw [h18, hr10] at c24; simp [c24]⟩, ht9⟩) (fun _ h => nomatch h) d_ps_bit_32)
  · refine lv_iconst (v := 1) hx hb d_ps_bit_27 (by decide) ?_
    refine lv_goto (tgt := 32) hx hb d_ps_bit_28 (by decide) ?_
    refine W.widen (k := 2) (n := 12) (Nat.le_of_ble_eq_true rfl) (Nat.le_of_ble_eq_true rfl) ?_
    exact vx_ret (W.iret hx hb hr (fun t9 ht9 hW9 => ⟨_, rfl, ⟨j, k, q, (okP_of hj hnj hpj hgj), hk, hq, hck, heq, by rw [h18, hr10] at c24; simp [c24]⟩, ht9⟩) (fun _ h => nomatch h) d_ps_bit_32)

set_option maxHeartbeats 4000000 in
set_option maxRecDepth 100000 in
theorem c_ps_finders (l : Launch) (hl9 : l.stackTraces = false) (Z : gZ) (G : gh) (sz : Nat) (x : Nat) {sh ma pa : Nat} {mad fk : Int32} (hx0 : G x = some (.inr (0, [.ref sh, .ref ma, .ref pa, .int mad, .int fk]))) {pt : Nat → Option Nat} {pd : Nat → Pat} (hpa : G pa = some (.inl (Z.2 3, 24, .inr (.inr (.inr (.inr pt)))))) (hpt : ∀ i a, i < 24 → pt i = some a → G a = some (.inr (3, pfs (pd i)))) (f0 : Int32) : vx_Met l y_ps_finders (wd_ps_finders :: Gall) ({ frames := 7, cells := 1, slots := 6, locals := 110 }) (va_Pc [.ref x, .int f0] (gPx Z G sz)) (vp_Si (fun r : Int32 => ∃ f, f < 31 ∧ f0 = nI f ∧ r = nI (cntF pt pd ((1 : Int32) <<< (nI f &&& 31)) 24))) (gXC (fun X9 : String => X9 = "java/lang/IndexOutOfBoundsException" ∧ ¬ ∃ k, k < 31 ∧ f0 = nI k) sz) 1 6 (fun q => sz ≤ q) := by
  refine vx_ofW (cc := b_ps_finders) (maxL := 6) (ret := (some .int)) (by decide) rfl ?_
  intro p e s m args below meth c s₁ B hml htab hv
  obtain ⟨rfl, hsz, ⟨hG, hE⟩, hX⟩ := hv
  subst hsz
  have hx := B.exec
  have hb := B.bytes
  have hr := B.returns
  have hlocks := B.notSynchronized
  have S : CallFix p m c b_ps_finders 6 s _ Gall "PackSeeds" := ⟨hx, hb, hml, findClass_of_methodNamed B.named, fun w hw => atoms_spec (ws := wd_ps_finders :: Gall) B.pre w (List.mem_cons_of_mem _ hw)⟩
  have hGS : gS (gA G s.heap.size) s.heap Z.1 cls G s.heap [] := gS.start hG
  have hl := lv_entry ([.ref x, .int f0]) (n := 6) (Nat.le_of_ble_eq_true rfl)
  rw [lg_entry_eq]
  generalize (lg_sl ([.ref x, .int f0]) ++ List.replicate (6 - (lg_sl ([.ref x, .int f0])).length) Slot.unset).toArray = ls at hl ⊢
  have hl : lv_has ls 6 [(0, .ref x), (1, .int f0)] := hl
  refine lv_iload_n hx hb d_ps_finders_0 rfl (lv_at hl 1 rfl) ?_
  refine g_xreti (Nat.le_refl _) (g_xrunS (As := [.int f0]) (rest := []) S lk_ps_118 k_ps_existingFault (c_ps_existingFault l hl9 Z G s.heap.size f0) ⟨rfl, rfl⟩ ⟨(Nat.le_of_ble_eq_true rfl), (Nat.le_of_ble_eq_true rfl)⟩ (gPxS hGS hE hX) rfl hl.1 rfl (Nat.le_of_ble_eq_true rfl) d_ps_finders_1 ⟨(Nat.le_of_ble_eq_true rfl), (Nat.le_of_ble_eq_true rfl)⟩) (g_out htab hlocks (fun E h => h) (fun _ h => nomatch h) (Nat.le_of_ble_eq_true rfl) (Nat.le_of_ble_eq_true rfl)) (fun r1 h1 => ?_)
  obtain ⟨f, hf, hff, hr1⟩ := h1
  refine lv_istore_n (lv' := [(2, .int r1), (0, .ref x), (1, .int f0)]) hx hb d_ps_finders_4 rfl hl (by decide) rfl (fun ls hl => ?_)
  refine lv_iconst (v := nI 0) hx hb d_ps_finders_5 (by decide) ?_
  refine lv_istore_n (lv' := [(3, .int (nI 0)), (2, .int r1), (0, .ref x), (1, .int f0)]) hx hb d_ps_finders_6 rfl hl (by decide) rfl (fun ls hl => ?_)
  refine lv_iconst (v := nI 0) hx hb d_ps_finders_7 (by decide) ?_
  refine lv_istore (lv' := [(4, .int (nI 0)), (3, .int (nI 0)), (2, .int r1), (0, .ref x), (1, .int f0)]) hx hb d_ps_finders_8 hl (by decide) rfl (fun ls hl => ?_)
  refine g_ind (V := Nat × Nat) (fun (i, n) ls => (i ≤ 24 ∧ n = cntF pt pd r1 i) ∧ lv_has ls 6 [(0, .ref x), (1, .int f0), (2, .int r1), (3, .int (nI n)), (4, .int (nI i))]) (fun (i, n) => 24 - i) ?_ (0, 0) _ ⟨⟨Nat.zero_le _, rfl⟩, lv_sub hl [3, 4, 2, 1, 0] rfl⟩
  intro v ls hI ih10
  obtain ⟨i, n⟩ := v
  obtain ⟨⟨hi, hn⟩, hl⟩ := hI
  refine lv_iload hx hb d_ps_finders_10 (lv_at hl 4 rfl) ?_
  refine lv_aload_n hx hb d_ps_finders_12 rfl (lv_at hl 0 rfl) ?_
  refine g_get S hE.1 hG hx0 rfl in_ps 2 (by decide) tw_70 (fun _ h9 => h9) rfl d_ps_finders_13 ?_
  refine g_alen S hE.1 hG hpa 3 rfl (v := nI 24) rfl d_ps_finders_16 ?_
  refine g_ge (tgt := 52) hx hb d_ps_finders_17 (by decide) (by omega) (by omega) (fun c17 => ?_) (fun c17 => ?_)
  · refine lv_iload_n hx hb d_ps_finders_52 rfl (lv_at hl 3 rfl) ?_
    refine W.widen (k := 1) (n := 6) (Nat.le_of_ble_eq_true rfl) (Nat.le_of_ble_eq_true rfl) ?_
    exact vx_ret (W.iret hx hb hr (fun t9 ht9 hW9 => ⟨_, rfl, ⟨f, hf, hff, by rw [hn, show i = 24 by omega, hr1]⟩, ht9⟩) (fun _ h => nomatch h) d_ps_finders_53)
  · refine lv_aload_n hx hb d_ps_finders_20 rfl (lv_at hl 0 rfl) ?_
    refine lv_iload hx hb d_ps_finders_21 (lv_at hl 4 rfl) ?_
    refine g_retq (g_runV (As := [.int (nI i)]) (rest := []) S lk_ps_65 k_ps_presentOrNull (c_ps_presentOrNull l Z G x hx0 hpa hpt (nI i)) ⟨rfl, rfl⟩ ⟨Nat.le_of_ble_eq_true rfl, Nat.le_of_ble_eq_true rfl⟩ (gPreV hG hE hx0 rfl) rfl hl.1 rfl (Nat.le_of_ble_eq_true rfl) d_ps_finders_23 ⟨Nat.le_of_ble_eq_true rfl, Nat.le_of_ble_eq_true rfl⟩) (fun r23 h23 => ?_)
    cases r23 with
    | none =>
      refine lv_astoreN (lv' := [(5, .null), (0, .ref x), (1, .int f0), (2, .int r1), (3, .int (nI n)), (4, .int (nI i))]) hx hb d_ps_finders_26 hl (by decide) rfl (fun ls hl => ?_)
      refine lv_aloadN hx hb d_ps_finders_28 (lv_at hl 0 rfl) ?_
      refine lv_ifnullN (tgt := 46) hx hb d_ps_finders_30 (by decide) ?_
      refine lv_iinc (v := nI (i + 1)) (lv' := [(4, .int (nI (i + 1))), (5, .null), (0, .ref x), (1, .int f0), (2, .int r1), (3, .int (nI n))]) hx hb d_ps_finders_46 hl (k := 5) rfl (show nI i + 1 = _ from nI_1 i) (by decide) rfl (fun ls hl => ?_)
      refine lv_goto (tgt := 10) hx hb d_ps_finders_49 (by decide) ?_
      exact ih10 ((i + 1), n) _ ⟨⟨by omega, by subst hn; simp only [cntF, itr_s]; first | (rw [prI_nat _ _ (by omega)] at h23; simp [← h23]; done) | simp [← h23, c40]⟩, lv_sub hl [2, 3, 4, 5, 0] rfl⟩ (by first | omega | (simp only []; omega))
    | some a23 =>
      rw [prI_nat _ _ (by omega)] at h23
      obtain ⟨p23, g23⟩ := prN_some h23
      refine lv_astore (lv' := [(5, .ref a23), (0, .ref x), (1, .int f0), (2, .int r1), (3, .int (nI n)), (4, .int (nI i))]) hx hb d_ps_finders_26 hl (by decide) rfl (fun ls hl => ?_)
      refine lv_aload hx hb d_ps_finders_28 (lv_at hl 0 rfl) ?_
      refine lv_ifnull hx hb d_ps_finders_30 ?_
      refine lv_aload hx hb d_ps_finders_33 (lv_at hl 0 rfl) ?_
      refine g_getN S hE.1 hG (hpt i a23 (by omega) p23) rfl in_pt 3 (by decide) (hE.2 _ nw_21) (fun _ h9 => h9) rfl d_ps_finders_35 ?_
      refine lv_iload_n hx hb d_ps_finders_38 rfl (lv_at hl 3 rfl) ?_
      refine lv_iand hx hb d_ps_finders_39 ?_
      refine lv_if_eq (tgt := 46) hx hb d_ps_finders_40 (by decide) (fun c40 => ?_) (fun c40 => ?_)
      · refine lv_iinc (v := nI (i + 1)) (lv' := [(4, .int (nI (i + 1))), (5, .ref a23), (0, .ref x), (1, .int f0), (2, .int r1), (3, .int (nI n))]) hx hb d_ps_finders_46 hl (k := 5) rfl (show nI i + 1 = _ from nI_1 i) (by decide) rfl (fun ls hl => ?_)
        refine lv_goto (tgt := 10) hx hb d_ps_finders_49 (by decide) ?_
        exact ih10 ((i + 1), n) _ ⟨⟨by omega, by subst hn; simp only [cntF, itr_s]; first | (rw [prI_nat _ _ (by omega)] at h23; simp [← h23]; done) | simp [← h23, c40]⟩, lv_sub hl [2, 3, 4, 5, 0] rfl⟩ (by first | omega | (simp only []; omega))
      · refine lv_iinc (v := nI (n + 1)) (lv' := [(3, .int (nI (n + 1))), (5, .ref a23), (0, .ref x), (1, .int f0), (2, .int r1), (4, .int (nI i))]) hx hb d_ps_finders_43 hl (k := 4) rfl (show nI n + 1 = _ from nI_1 n) (by decide) rfl (fun ls hl => ?_)
        refine lv_iinc (v := nI (i + 1)) (lv' := [(4, .int (nI (i + 1))), (3, .int (nI (n + 1))), (5, .ref a23), (0, .ref x), (1, .int f0), (2, .int r1)]) hx hb d_ps_finders_46 hl (k := 5) rfl (show nI i + 1 = _ from nI_1 i) (by decide) rfl (fun ls hl => ?_)
        refine lv_goto (tgt := 10) hx hb d_ps_finders_49 (by decide) ?_
        exact ih10 ((i + 1), (n + 1)) _ ⟨⟨by omega, by subst hn; simp only [cntF, itr_s]; first | (rw [prI_nat _ _ (by omega)] at h23; simp [← h23]; done) | simp [← h23, c40]⟩, lv_sub hl [3, 4, 5, 1, 0] rfl⟩ (by first | omega | (simp only []; omega))

set_option maxHeartbeats 4000000 in
set_option maxRecDepth 100000 in
theorem c_ps_shifts (l : Launch) (hl9 : l.stackTraces = false) (Z : gZ) (G : gh) (sz : Nat) (x : Nat) {sh ma pa : Nat} {mad fk : Int32} (hx0 : G x = some (.inr (0, [.ref sh, .ref ma, .ref pa, .int mad, .int fk]))) {C E : Nat} (hs : G sh = some (.inr (1, [.int (nI C), .int (nI E)]))) (hC : C ≤ 4) (hE8 : E ≤ 8) {ro : Nat} {stg tp : Int32} (hm : G ma = some (.inr (2, [.ref sh, .ref ro, .int stg, .int tp]))) {pt : Nat → Option Nat} {pd : Nat → Pat} (hpa : G pa = some (.inl (Z.2 3, 24, .inr (.inr (.inr (.inr pt)))))) (hpt : ∀ i a, i < 24 → pt i = some a → G a = some (.inr (3, pfs (pd i)))) (n : Int32) : vx_Met l y_ps_shifts (wd_ps_shifts :: Gall) ({ frames := 7, cells := 1, slots := 6, locals := 112 }) (va_Pc [.ref x, .int n] (gPx Z G sz)) (vp_Sl (fun r : Int64 => ∃ j, okP pt pd n j ∧ r = shC (bitsC stg tp fk C E (pd j)) E C)) (gXC (fun X9 : String => X9 = "java/lang/IndexOutOfBoundsException" ∧ ∀ j, ¬ okP pt pd n j) sz) 1 6 (fun q => sz ≤ q) := by
  refine vx_ofW (cc := b_ps_shifts) (maxL := 9) (ret := (some .long)) (by decide) rfl ?_
  intro p e s m args below meth c s₁ B hml htab hv
  obtain ⟨rfl, hsz, ⟨hG, hE⟩, hX⟩ := hv
  subst hsz
  have hx := B.exec
  have hb := B.bytes
  have hr := B.returns
  have hlocks := B.notSynchronized
  have S : CallFix p m c b_ps_shifts 9 s _ Gall "PackSeeds" := ⟨hx, hb, hml, findClass_of_methodNamed B.named, fun w hw => atoms_spec (ws := wd_ps_shifts :: Gall) B.pre w (List.mem_cons_of_mem _ hw)⟩
  have hGS : gS (gA G s.heap.size) s.heap Z.1 cls G s.heap [] := gS.start hG
  have hl := lv_entry ([.ref x, .int n]) (n := 9) (Nat.le_of_ble_eq_true rfl)
  rw [lg_entry_eq]
  generalize (lg_sl ([.ref x, .int n]) ++ List.replicate (9 - (lg_sl ([.ref x, .int n])).length) Slot.unset).toArray = ls at hl ⊢
  have hl : lv_has ls 9 [(0, .ref x), (1, .int n)] := hl
  refine lv_aload_n hx hb d_ps_shifts_0 rfl (lv_at hl 0 rfl) ?_
  refine lv_aload_n hx hb d_ps_shifts_1 rfl (lv_at hl 0 rfl) ?_
  refine lv_iload_n hx hb d_ps_shifts_2 rfl (lv_at hl 1 rfl) ?_
  refine g_xretq (Nat.le_refl _) (g_xrunV (As := [.int n]) (rest := [.ref x]) S lk_ps_48 k_ps_present (c_ps_present l hl9 Z G s.heap.size x hx0 hpa hpt n) ⟨rfl, rfl⟩ ⟨(Nat.le_of_ble_eq_true rfl), (Nat.le_of_ble_eq_true rfl)⟩ (gPxV hGS hE hX hx0 rfl) rfl hl.1 rfl (Nat.le_of_ble_eq_true rfl) d_ps_shifts_3 ⟨(Nat.le_of_ble_eq_true rfl), (Nat.le_of_ble_eq_true rfl)⟩) (g_out htab hlocks (fun E h => h) (fun _ h => nomatch h) (Nat.le_of_ble_eq_true rfl) (Nat.le_of_ble_eq_true rfl)) (fun r3 h3 => ?_)
  obtain ⟨a3, j, hr3, hj, hnj, hpj, hgj⟩ := h3
  subst hr3
  refine g_reti (g_runV (As := [.ref a3]) (rest := []) S lk_ps_114 k_ps_bitsOf (c_ps_bitsOf l Z G x hx0 hs hC hE8 hm a3 (hpt j a3 hj hpj)) ⟨rfl, rfl⟩ ⟨Nat.le_of_ble_eq_true rfl, Nat.le_of_ble_eq_true rfl⟩ (gPreV hG hE hx0 rfl) rfl hl.1 rfl (Nat.le_of_ble_eq_true rfl) d_ps_shifts_6 ⟨Nat.le_of_ble_eq_true rfl, Nat.le_of_ble_eq_true rfl⟩) (fun r6 h6 => ?_)
  refine lv_istore_n (lv' := [(2, .int r6), (0, .ref x), (1, .int n)]) hx hb d_ps_shifts_9 rfl hl (by decide) rfl (fun ls hl => ?_)
  refine lv_lconst (v := 0) hx hb d_ps_shifts_10 (by decide) ?_
  refine lv_lstore_n (lv' := [(3, .long 0), (2, .int r6), (0, .ref x), (1, .int n)]) hx hb d_ps_shifts_11 rfl hl (by decide) rfl (fun ls hl => ?_)
  refine lv_iconst (v := nI 0) hx hb d_ps_shifts_12 (by decide) ?_
  refine lv_istore (lv' := [(5, .int (nI 0)), (3, .long 0), (2, .int r6), (0, .ref x), (1, .int n)]) hx hb d_ps_shifts_13 hl (by decide) rfl (fun ls hl => ?_)
  refine g_ind (V := Nat × Int64) (fun (k, b) ls => (k ≤ C ∧ b = shC r6 E k) ∧ lv_has ls 9 [(0, .ref x), (1, .int n), (2, .int r6), (3, .long b), (5, .int (nI k))]) (fun (k, b) => C - k) ?_ (0, 0) _ ⟨⟨Nat.zero_le _, rfl⟩, lv_sub hl [3, 4, 2, 1, 0] rfl⟩
  intro v ls hI ih15
  obtain ⟨k, b⟩ := v
  obtain ⟨⟨hk, hb1⟩, hl⟩ := hI
  refine lv_iload hx hb d_ps_shifts_15 (lv_at hl 4 rfl) ?_
  refine lv_aload_n hx hb d_ps_shifts_17 rfl (lv_at hl 0 rfl) ?_
  refine g_get S hE.1 hG hx0 rfl in_ps 0 (by decide) tw_68 (fun _ h9 => h9) rfl d_ps_shifts_18 ?_
  refine g_getN S hE.1 hG hs rfl in_sh 0 (by decide) (hE.2 _ nw_2) (fun _ h9 => h9) rfl d_ps_shifts_21 ?_
  refine g_ge (tgt := 111) hx hb d_ps_shifts_24 (by decide) (by omega) (by omega) (fun c24 => ?_) (fun c24 => ?_)
  · refine lv_lload_n hx hb d_ps_shifts_111 rfl (lv_at hl 3 rfl) ?_
    refine W.widen (k := 1) (n := 6) (Nat.le_of_ble_eq_true rfl) (Nat.le_of_ble_eq_true rfl) ?_
    exact vx_ret (W.lret hx hb hr (fun t9 ht9 hW9 => ⟨_, rfl, ⟨j, (okP_of hj hnj hpj hgj), by rw [hb1, show k = C by omega, h6]⟩, ht9⟩) (fun _ h => nomatch h) d_ps_shifts_112)
  · refine lv_iconst (v := nI 0) hx hb d_ps_shifts_27 (by decide) ?_
    refine lv_istore (lv' := [(6, .int (nI 0)), (0, .ref x), (1, .int n), (2, .int r6), (3, .long b), (5, .int (nI k))]) hx hb d_ps_shifts_28 hl (by decide) rfl (fun ls hl => ?_)
    refine g_ind (V := Nat × Int64) (fun (i, a) ls => (i ≤ E - 1 ∧ a = shI r6 k b i) ∧ lv_has ls 9 [(0, .ref x), (1, .int n), (2, .int r6), (3, .long a), (5, .int (nI k)), (6, .int (nI i))]) (fun (i, a) => E - i) ?_ (0, b) _ ⟨⟨Nat.zero_le _, rfl⟩, lv_sub hl [1, 2, 3, 4, 5, 0] rfl⟩
    intro v ls hI ih30
    obtain ⟨i, a⟩ := v
    obtain ⟨⟨hi, ha⟩, hl⟩ := hI
    refine lv_iload hx hb d_ps_shifts_30 (lv_at hl 5 rfl) ?_
    refine lv_iconst (v := 1) hx hb d_ps_shifts_32 (by decide) ?_
    refine lv_iadd hx hb d_ps_shifts_33 ?_
    refine g_topi (y := nI (i + 1)) (nI_1 i) ?_
    refine lv_aload_n hx hb d_ps_shifts_34 rfl (lv_at hl 0 rfl) ?_
    refine g_get S hE.1 hG hx0 rfl in_ps 0 (by decide) tw_68 (fun _ h9 => h9) rfl d_ps_shifts_35 ?_
    refine g_getN S hE.1 hG hs rfl in_sh 1 (by decide) (hE.2 _ nw_4) (fun _ h9 => h9) rfl d_ps_shifts_38 ?_
    refine g_ge (tgt := 105) hx hb d_ps_shifts_41 (by decide) (by omega) (by omega) (fun c41 => ?_) (fun c41 => ?_)
    · refine lv_iinc (v := nI (k + 1)) (lv' := [(5, .int (nI (k + 1))), (0, .ref x), (1, .int n), (2, .int r6), (3, .long a), (6, .int (nI i))]) hx hb d_ps_shifts_105 hl (k := 4) rfl (show nI k + 1 = _ from nI_1 k) (by decide) rfl (fun ls hl => ?_)
      refine lv_goto (tgt := 15) hx hb d_ps_shifts_108 (by decide) ?_
      exact ih15 ((k + 1), a) _ ⟨⟨by omega, by rw [ha, show i = E - 1 by omega, hb1]; rfl⟩, lv_sub hl [1, 2, 3, 4, 0] rfl⟩ (by first | omega | (simp only []; omega))
    · refine lv_iload_n hx hb d_ps_shifts_44 rfl (lv_at hl 2 rfl) ?_
      refine lv_iload hx hb d_ps_shifts_45 (lv_at hl 4 rfl) ?_
      refine lv_iload hx hb d_ps_shifts_47 (lv_at hl 5 rfl) ?_
      refine g_reti (g_runS (As := [.int (nI k), .int (nI i)]) (rest := [.int r6]) S lk_ps_168 k_ps_place (c_ps_place l Z G (nI k) (nI i)) ⟨rfl, rfl⟩ ⟨Nat.le_of_ble_eq_true rfl, Nat.le_of_ble_eq_true rfl⟩ (gPreS hG hE) rfl hl.1 rfl (Nat.le_of_ble_eq_true rfl) d_ps_shifts_49 ⟨Nat.le_of_ble_eq_true rfl, Nat.le_of_ble_eq_true rfl⟩) (fun r49 h49 => ?_)
      refine lv_iand hx hb d_ps_shifts_52 ?_
      refine lv_if_eq (tgt := 60) hx hb d_ps_shifts_53 (by decide) (fun c53 => ?_) (fun c53 => ?_)
      · refine lv_iconst (v := 0) hx hb d_ps_shifts_60 (by decide) ?_
        refine lv_istore (lv' := [(7, .int 0), (0, .ref x), (1, .int n), (2, .int r6), (3, .long a), (5, .int (nI k)), (6, .int (nI i))]) hx hb d_ps_shifts_61 hl (by decide) rfl (fun ls hl => ?_)
        refine lv_iload_n hx hb d_ps_shifts_63 rfl (lv_at hl 3 rfl) ?_
        refine lv_iload hx hb d_ps_shifts_64 (lv_at hl 5 rfl) ?_
        refine lv_iload hx hb d_ps_shifts_66 (lv_at hl 6 rfl) ?_
        refine lv_iconst (v := 1) hx hb d_ps_shifts_68 (by decide) ?_
        refine lv_iadd hx hb d_ps_shifts_69 ?_
        refine g_topi (y := nI (i + 1)) (nI_1 i) ?_
        refine g_reti (g_runS (As := [.int (nI k), .int (nI (i + 1))]) (rest := [.int r6]) S lk_ps_168 k_ps_place (c_ps_place l Z G (nI k) (nI (i + 1))) ⟨rfl, rfl⟩ ⟨Nat.le_of_ble_eq_true rfl, Nat.le_of_ble_eq_true rfl⟩ (gPreS hG hE) rfl hl.1 rfl (Nat.le_of_ble_eq_true rfl) d_ps_shifts_70 ⟨Nat.le_of_ble_eq_true rfl, Nat.le_of_ble_eq_true rfl⟩) (fun r70 h70 => ?_)
        refine lv_iand hx hb d_ps_shifts_73 ?_
        refine lv_if_eq (tgt := 81) hx hb d_ps_shifts_74 (by decide) (fun c74 => ?_) (fun c74 => ?_)
        · refine lv_iconst (v := 0) hx hb d_ps_shifts_81 (by decide) ?_
          refine lv_istore (lv' := [(8, .int 0), (7, .int 0), (0, .ref x), (1, .int n), (2, .int r6), (3, .long a), (5, .int (nI k)), (6, .int (nI i))]) hx hb d_ps_shifts_82 hl (by decide) rfl (fun ls hl => ?_)
          refine lv_iload hx hb d_ps_shifts_84 (lv_at hl 1 rfl) ?_
          refine lv_iload hx hb d_ps_shifts_86 (lv_at hl 0 rfl) ?_
          refine lv_icmp_eq (tgt := 99) hx hb d_ps_shifts_88 (by decide) (fun c88 => ?_) (fun c88 => absurd c88 (not_not_intro rfl))
          refine lv_iinc (v := nI (i + 1)) (lv' := [(6, .int (nI (i + 1))), (8, .int 0), (7, .int 0), (0, .ref x), (1, .int n), (2, .int r6), (3, .long a), (5, .int (nI k))]) hx hb d_ps_shifts_99 hl (k := 7) rfl (show nI i + 1 = _ from nI_1 i) (by decide) rfl (fun ls hl => ?_)
          refine lv_goto (tgt := 30) hx hb d_ps_shifts_102 (by decide) ?_
          exact ih30 ((i + 1), a) _ ⟨⟨by omega, by rw [h49] at c53; rw [h70] at c74; first | (subst e98; rw [ha]; simp only [shI, itr_s]; simp [c53, c74]; done) | (rw [ha]; simp only [shI, itr_s]; simp [c53, c74])⟩, lv_sub hl [3, 4, 5, 6, 7, 0] rfl⟩ (by first | omega | (simp only []; omega))
        · refine lv_iconst (v := 1) hx hb d_ps_shifts_77 (by decide) ?_
          refine lv_goto (tgt := 82) hx hb d_ps_shifts_78 (by decide) ?_
          refine lv_istore (lv' := [(8, .int 1), (7, .int 0), (0, .ref x), (1, .int n), (2, .int r6), (3, .long a), (5, .int (nI k)), (6, .int (nI i))]) hx hb d_ps_shifts_82 hl (by decide) rfl (fun ls hl => ?_)
          refine lv_iload hx hb d_ps_shifts_84 (lv_at hl 1 rfl) ?_
          refine lv_iload hx hb d_ps_shifts_86 (lv_at hl 0 rfl) ?_
          refine lv_icmp_eq (tgt := 99) hx hb d_ps_shifts_88 (by decide) (fun c88 => absurd c88 (by decide)) (fun c88 => ?_)
          refine lv_lload_n hx hb d_ps_shifts_91 rfl (lv_at hl 5 rfl) ?_
          refine lv_iload hx hb d_ps_shifts_92 (lv_at hl 7 rfl) ?_
          refine lv_iconst (v := 1) hx hb d_ps_shifts_94 (by decide) ?_
          refine lv_iadd hx hb d_ps_shifts_95 ?_
          refine g_topi (y := nI (i + 1)) (nI_1 i) ?_
          refine lv_i2l hx hb d_ps_shifts_96 rfl ?_
          refine lv_ladd hx hb d_ps_shifts_97 ?_
          refine lv_topl (fun x98 e98 => ?_)
          refine lv_lstore_n (lv' := [(3, .long x98), (8, .int 1), (7, .int 0), (0, .ref x), (1, .int n), (2, .int r6), (5, .int (nI k)), (6, .int (nI i))]) hx hb d_ps_shifts_98 rfl hl (by decide) rfl (fun ls hl => ?_)
          refine lv_iinc (v := nI (i + 1)) (lv' := [(6, .int (nI (i + 1))), (3, .long x98), (8, .int 1), (7, .int 0), (0, .ref x), (1, .int n), (2, .int r6), (5, .int (nI k))]) hx hb d_ps_shifts_99 hl (k := 7) rfl (show nI i + 1 = _ from nI_1 i) (by decide) rfl (fun ls hl => ?_)
          refine lv_goto (tgt := 30) hx hb d_ps_shifts_102 (by decide) ?_
          exact ih30 ((i + 1), x98) _ ⟨⟨by omega, by rw [h49] at c53; rw [h70] at c74; first | (subst e98; rw [ha]; simp only [shI, itr_s]; simp [c53, c74]; done) | (rw [ha]; simp only [shI, itr_s]; simp [c53, c74])⟩, lv_sub hl [4, 5, 6, 1, 7, 0] rfl⟩ (by first | omega | (simp only []; omega))
      · refine lv_iconst (v := 1) hx hb d_ps_shifts_56 (by decide) ?_
        refine lv_goto (tgt := 61) hx hb d_ps_shifts_57 (by decide) ?_
        refine lv_istore (lv' := [(7, .int 1), (0, .ref x), (1, .int n), (2, .int r6), (3, .long a), (5, .int (nI k)), (6, .int (nI i))]) hx hb d_ps_shifts_61 hl (by decide) rfl (fun ls hl => ?_)
        refine lv_iload_n hx hb d_ps_shifts_63 rfl (lv_at hl 3 rfl) ?_
        refine lv_iload hx hb d_ps_shifts_64 (lv_at hl 5 rfl) ?_
        refine lv_iload hx hb d_ps_shifts_66 (lv_at hl 6 rfl) ?_
        refine lv_iconst (v := 1) hx hb d_ps_shifts_68 (by decide) ?_
        refine lv_iadd hx hb d_ps_shifts_69 ?_
        refine g_topi (y := nI (i + 1)) (nI_1 i) ?_
        refine g_reti (g_runS (As := [.int (nI k), .int (nI (i + 1))]) (rest := [.int r6]) S lk_ps_168 k_ps_place (c_ps_place l Z G (nI k) (nI (i + 1))) ⟨rfl, rfl⟩ ⟨Nat.le_of_ble_eq_true rfl, Nat.le_of_ble_eq_true rfl⟩ (gPreS hG hE) rfl hl.1 rfl (Nat.le_of_ble_eq_true rfl) d_ps_shifts_70 ⟨Nat.le_of_ble_eq_true rfl, Nat.le_of_ble_eq_true rfl⟩) (fun r70 h70 => ?_)
        refine lv_iand hx hb d_ps_shifts_73 ?_
        refine lv_if_eq (tgt := 81) hx hb d_ps_shifts_74 (by decide) (fun c74 => ?_) (fun c74 => ?_)
        · refine lv_iconst (v := 0) hx hb d_ps_shifts_81 (by decide) ?_
          refine lv_istore (lv' := [(8, .int 0), (7, .int 1), (0, .ref x), (1, .int n), (2, .int r6), (3, .long a), (5, .int (nI k)), (6, .int (nI i))]) hx hb d_ps_shifts_82 hl (by decide) rfl (fun ls hl => ?_)
          refine lv_iload hx hb d_ps_shifts_84 (lv_at hl 1 rfl) ?_
          refine lv_iload hx hb d_ps_shifts_86 (lv_at hl 0 rfl) ?_
          refine lv_icmp_eq (tgt := 99) hx hb d_ps_shifts_88 (by decide) (fun c88 => absurd c88 (by decide)) (fun c88 => ?_)
          refine lv_lload_n hx hb d_ps_shifts_91 rfl (lv_at hl 5 rfl) ?_
          refine lv_iload hx hb d_ps_shifts_92 (lv_at hl 7 rfl) ?_
          refine lv_iconst (v := 1) hx hb d_ps_shifts_94 (by decide) ?_
          refine lv_iadd hx hb d_ps_shifts_95 ?_
          refine g_topi (y := nI (i + 1)) (nI_1 i) ?_
          refine lv_i2l hx hb d_ps_shifts_96 rfl ?_
          refine lv_ladd hx hb d_ps_shifts_97 ?_
          refine lv_topl (fun x98 e98 => ?_)
          refine lv_lstore_n (lv' := [(3, .long x98), (8, .int 0), (7, .int 1), (0, .ref x), (1, .int n), (2, .int r6), (5, .int (nI k)), (6, .int (nI i))]) hx hb d_ps_shifts_98 rfl hl (by decide) rfl (fun ls hl => ?_)
          refine lv_iinc (v := nI (i + 1)) (lv' := [(6, .int (nI (i + 1))), (3, .long x98), (8, .int 0), (7, .int 1), (0, .ref x), (1, .int n), (2, .int r6), (5, .int (nI k))]) hx hb d_ps_shifts_99 hl (k := 7) rfl (show nI i + 1 = _ from nI_1 i) (by decide) rfl (fun ls hl => ?_)
          refine lv_goto (tgt := 30) hx hb d_ps_shifts_102 (by decide) ?_
          exact ih30 ((i + 1), x98) _ ⟨⟨by omega, by rw [h49] at c53; rw [h70] at c74; first | (subst e98; rw [ha]; simp only [shI, itr_s]; simp [c53, c74]; done) | (rw [ha]; simp only [shI, itr_s]; simp [c53, c74])⟩, lv_sub hl [4, 5, 6, 1, 7, 0] rfl⟩ (by first | omega | (simp only []; omega))
        · refine lv_iconst (v := 1) hx hb d_ps_shifts_77 (by decide) ?_
          refine lv_goto (tgt := 82) hx hb d_ps_shifts_78 (by decide) ?_
          refine lv_istore (lv' := [(8, .int 1), (7, .int 1), (0, .ref x), (1, .int n), (2, .int r6), (3, .long a), (5, .int (nI k)), (6, .int (nI i))]) hx hb d_ps_shifts_82 hl (by decide) rfl (fun ls hl => ?_)
          refine lv_iload hx hb d_ps_shifts_84 (lv_at hl 1 rfl) ?_
          refine lv_iload hx hb d_ps_shifts_86 (lv_at hl 0 rfl) ?_
          refine lv_icmp_eq (tgt := 99) hx hb d_ps_shifts_88 (by decide) (fun c88 => ?_) (fun c88 => absurd c88 (not_not_intro rfl))
          refine lv_iinc (v := nI (i + 1)) (lv' := [(6, .int (nI (i + 1))), (8, .int 1), (7, .int 1), (0, .ref x), (1, .int n), (2, .int r6), (3, .long a), (5, .int (nI k))]) hx hb d_ps_shifts_99 hl (k := 7) rfl (show nI i + 1 = _ from nI_1 i) (by decide) rfl (fun ls hl => ?_)
          refine lv_goto (tgt := 30) hx hb d_ps_shifts_102 (by decide) ?_
          exact ih30 ((i + 1), a) _ ⟨⟨by omega, by rw [h49] at c53; rw [h70] at c74; first | (subst e98; rw [ha]; simp only [shI, itr_s]; simp [c53, c74]; done) | (rw [ha]; simp only [shI, itr_s]; simp [c53, c74])⟩, lv_sub hl [3, 4, 5, 6, 7, 0] rfl⟩ (by first | omega | (simp only []; omega))
end
section
theorem frmax : ∀ N, N < 61 → ∀ D, D < 17 → (if (0 : Int32) < nI N - nI D then nI N - nI D else 0) = nI (N - D) := by decide +kernel
theorem lshl1 : ∀ F, F < 61 → ((1 : Int64) <<< ((nI F).toInt64 &&& 63)) - 1 = lN (2 ^ F - 1) := by decide +kernel
theorem gcdC_ne (a b : Int64) : ¬ gcdC a b = 0 := by
  unfold gcdC
  intro h
  split at h
  · exact absurd h (by decide)
  · rename_i h1
    rw [h] at h1
    exact h1 (by decide)
theorem rng60 {n : Int32} (h1 : ¬ n < 1) (h2 : n ≤ 60) : ∃ N, 1 ≤ N ∧ N ≤ 60 ∧ n = nI N := by
  rw [Int32.lt_iff_toInt_lt] at h1
  rw [Int32.le_iff_toInt_le] at h2
  have e1 : (1 : Int32).toInt = 1 := by decide
  have e2 : (60 : Int32).toInt = 60 := by decide
  rcases pk_ix n (n := 61) (by omega) with h9 | h9 | ⟨j, hj, rfl⟩
  · rw [Int32.lt_iff_toInt_lt, Int32.toInt_zero] at h9; omega
  · rw [Int32.le_iff_toInt_le, nI_toInt (by omega)] at h9; omega
  · rw [nI_toInt (by omega)] at h1; exact ⟨j, by omega, by omega, rfl⟩
theorem rng60' {N : Nat} (h1 : 1 ≤ N) (h2 : N ≤ 60) : ¬ nI N < 1 ∧ nI N ≤ 60 := by
  rw [Int32.lt_iff_toInt_lt, Int32.le_iff_toInt_le, nI_toInt (by omega)]
  have e1 : (1 : Int32).toInt = 1 := by decide
  have e2 : (60 : Int32).toInt = 60 := by decide
  omega
theorem nn_of {x : Int32} (h : ¬ x < 0) : ∃ k : Nat, k < 2 ^ 31 ∧ x = nI k := nI_of h
def cnC (stg : Int32) (pt : Nat → Option Nat) (pd : Nat → Pat) (j : Nat) : Int32 := match j with
  | 0 => nI (cntP pt pd 24)
  | 1 => nI (cntS pt pd 24)
  | 2 => cntC pt pd 24
  | 3 => stg
  | _ => bcnt (orF pt pd (-1) 24)
theorem mn23 (t : Nat) (h : t < 2 ^ 31) : (if nI 23 < nI t then nI 23 else nI t) = nI (min t 23) := by
  by_cases h1 : 23 < t
  · rw [if_pos (nI_lt h1 h), Nat.min_eq_right (by omega)]
  · rw [if_neg (nI_nlt (by omega) (by omega)), Nat.min_eq_left (by omega)]
end
section
set_option maxHeartbeats 4000000 in
set_option maxRecDepth 100000 in
theorem c_ps_signature (l : Launch) (hl9 : l.stackTraces = false) (Z : gZ) (G : gh) (sz : Nat) (x : Nat) {sh ma pa : Nat} {mad fk : Int32} (hx0 : G x = some (.inr (0, [.ref sh, .ref ma, .ref pa, .int mad, .int fk]))) {C E : Nat} (hs : G sh = some (.inr (1, [.int (nI C), .int (nI E)]))) (hC : C ≤ 4) (hE8 : E ≤ 8) {ro : Nat} {stg tp : Int32} (hm : G ma = some (.inr (2, [.ref sh, .ref ro, .int stg, .int tp]))) {pt : Nat → Option Nat} {pd : Nat → Pat} (hpa : G pa = some (.inl (Z.2 3, 24, .inr (.inr (.inr (.inr pt)))))) (hpt : ∀ i a, i < 24 → pt i = some a → G a = some (.inr (3, pfs (pd i)))) (a0 b0 : Int32) : vx_Met l y_ps_signature (wd_ps_signature :: Gall) ({ frames := 6, cells := 1, slots := 6, locals := 91 }) (va_Pc [.ref x, .int a0, .int b0] (gPx Z G sz)) (vp_Sl (fun r : Int64 => ∃ f t, a0 = nI f ∧ b0 = nI t ∧ f ≤ t ∧ t < 2 ^ 31 ∧ r = (sgC stg tp fk C E pt pd f (min t 23 + 1 - f)).toInt64)) (gXC (fun X9 : String => X9 = "java/lang/IllegalArgumentException" ∧ (a0 < 0 ∨ b0 < a0)) sz) 1 6 (fun q => sz ≤ q) := by
  refine vx_ofW (cc := b_ps_signature) (maxL := 7) (ret := (some .long)) (by decide) rfl ?_
  intro p e s m args below meth c s₁ B hml htab hv
  obtain ⟨rfl, hsz, ⟨hG, hE⟩, hX⟩ := hv
  subst hsz
  have hx := B.exec
  have hb := B.bytes
  have hr := B.returns
  have hlocks := B.notSynchronized
  have S : CallFix p m c b_ps_signature 7 s _ Gall "PackSeeds" := ⟨hx, hb, hml, findClass_of_methodNamed B.named, fun w hw => atoms_spec (ws := wd_ps_signature :: Gall) B.pre w (List.mem_cons_of_mem _ hw)⟩
  have hGS : gS (gA G s.heap.size) s.heap Z.1 cls G s.heap [] := gS.start hG
  have hl := lv_entry ([.ref x, .int a0, .int b0]) (n := 7) (Nat.le_of_ble_eq_true rfl)
  rw [lg_entry_eq]
  generalize (lg_sl ([.ref x, .int a0, .int b0]) ++ List.replicate (7 - (lg_sl ([.ref x, .int a0, .int b0])).length) Slot.unset).toArray = ls at hl ⊢
  have hl : lv_has ls 7 [(0, .ref x), (1, .int a0), (2, .int b0)] := hl
  refine lv_iload_n hx hb d_ps_signature_0 rfl (lv_at hl 1 rfl) ?_
  refine lv_if_lt (tgt := 9) hx hb d_ps_signature_1 (by decide) (fun c1 => ?_) (fun c1 => ?_)
  · exact g_throw (text := "from is below 0, or to below from") S hE hl9 hX (by decide) (by decide +kernel) tw_280 tw_12 hat_60 hgd_60 (fun _ h => nomatch h) (fun _ h => nomatch h) hl.1 d_ps_signature_9 d_ps_signature_12 d_ps_signature_13 d_ps_signature_15 d_ps_signature_18 htab (Nat.le_of_ble_eq_true rfl) (Nat.le_of_ble_eq_true rfl) (Nat.le_of_ble_eq_true rfl) (Nat.le_of_ble_eq_true rfl) hlocks ⟨rfl, by first | exact Or.inl c1 | exact Or.inr (Int32.not_le.mp c6)⟩ (Nat.le_of_ble_eq_true rfl) (Nat.le_of_ble_eq_true rfl)
  · refine lv_iload_n hx hb d_ps_signature_4 rfl (lv_at hl 2 rfl) ?_
    refine lv_iload_n hx hb d_ps_signature_5 rfl (lv_at hl 1 rfl) ?_
    refine lv_icmp_ge (tgt := 19) hx hb d_ps_signature_6 (by decide) (fun c6 => ?_) (fun c6 => ?_)
    · obtain ⟨f, hf31, hf⟩ := nn_of c1
      obtain ⟨t, ht31, ht⟩ := nn_of (x := b0) (by intro h9; rw [hf] at c6; rw [Int32.lt_iff_toInt_lt, Int32.toInt_zero] at h9; rw [Int32.le_iff_toInt_le, nI_toInt hf31] at c6; omega)
      subst hf
      subst ht
      have hft : f ≤ t := (nI_leI hf31 ht31).mp c6
      refine lv_iload_n hx hb d_ps_signature_19 rfl (lv_at hl 2 rfl) ?_
      refine lv_aload_n hx hb d_ps_signature_20 rfl (lv_at hl 0 rfl) ?_
      refine g_get S hE.1 hG hx0 rfl in_ps 2 (by decide) tw_70 (fun _ h9 => h9) rfl d_ps_signature_21 ?_
      refine g_alen S hE.1 hG hpa 3 rfl (v := nI 24) rfl d_ps_signature_24 ?_
      refine lv_iconst (v := nI 1) hx hb d_ps_signature_25 (by decide) ?_
      refine lv_isub hx hb d_ps_signature_26 ?_
      refine g_topi (y := nI 23) rfl ?_
      refine va_mmin hx hb (hml.trans hl.1.symm) S.2.2.2.1 (S.2.2.2.2 _ tw_432) (S.2.2.2.2 _ tw_32) (S.2.2.2.2 _ tw_3) (S.2.2.2.2 _ tw_33) (Nat.le_of_ble_eq_true rfl) (Nat.le_of_ble_eq_true rfl) (Nat.le_of_ble_eq_true rfl) (Nat.le_of_ble_eq_true rfl) d_ps_signature_27 ?_
      refine g_topi (y := nI (min t 23)) (mn23 t ht31) ?_
      refine lv_istore_n (lv' := [(3, .int (nI (min t 23))), (0, .ref x), (1, .int (nI f)), (2, .int (nI t))]) hx hb d_ps_signature_30 rfl hl (by decide) rfl (fun ls hl => ?_)
      refine lv_iconst (v := 0) hx hb d_ps_signature_31 (by decide) ?_
      refine lv_istore (lv' := [(4, .int 0), (3, .int (nI (min t 23))), (0, .ref x), (1, .int (nI f)), (2, .int (nI t))]) hx hb d_ps_signature_32 hl (by decide) rfl (fun ls hl => ?_)
      refine lv_iload_n hx hb d_ps_signature_34 rfl (lv_at hl 3 rfl) ?_
      refine lv_istore (lv' := [(5, .int (nI f)), (4, .int 0), (3, .int (nI (min t 23))), (0, .ref x), (1, .int (nI f)), (2, .int (nI t))]) hx hb d_ps_signature_35 hl (by decide) rfl (fun ls hl => ?_)
      refine g_ind (V := Nat × Int32) (fun (k, a) ls => (k ≤ min t 23 + 1 - f ∧ a = sgC stg tp fk C E pt pd f k) ∧ lv_has ls 7 [(0, .ref x), (1, .int (nI f)), (2, .int (nI t)), (3, .int (nI (min t 23))), (4, .int a), (5, .int (nI (f + k)))]) (fun (k, a) => min t 23 + 1 - f - k) ?_ (0, 0) _ ⟨⟨Nat.zero_le _, rfl⟩, lv_sub hl [3, 4, 5, 2, 1, 0] rfl⟩
      intro v ls hI ih37
      obtain ⟨k, a⟩ := v
      obtain ⟨⟨hk, ha⟩, hl⟩ := hI
      refine lv_iload hx hb d_ps_signature_37 (lv_at hl 5 rfl) ?_
      refine lv_iload_n hx hb d_ps_signature_39 rfl (lv_at hl 3 rfl) ?_
      refine g_gt (tgt := 87) hx hb d_ps_signature_40 (by decide) (by omega) (by omega) (fun c40 => ?_) (fun c40 => ?_)
      · refine lv_iload hx hb d_ps_signature_87 (lv_at hl 4 rfl) ?_
        refine lv_i2l hx hb d_ps_signature_89 rfl ?_
        refine W.widen (k := 1) (n := 6) (Nat.le_of_ble_eq_true rfl) (Nat.le_of_ble_eq_true rfl) ?_
        exact vx_ret (W.lret hx hb hr (fun t9 ht9 hW9 => ⟨_, rfl, ⟨f, t, rfl, rfl, hft, ht31, by rw [ha, show k = min t 23 + 1 - f by omega]⟩, ht9⟩) (fun _ h => nomatch h) d_ps_signature_90)
      · refine lv_aload_n hx hb d_ps_signature_43 rfl (lv_at hl 0 rfl) ?_
        refine lv_iload hx hb d_ps_signature_44 (lv_at hl 5 rfl) ?_
        refine g_retq (g_runV (As := [.int (nI (f + k))]) (rest := []) S lk_ps_65 k_ps_presentOrNull (c_ps_presentOrNull l Z G x hx0 hpa hpt (nI (f + k))) ⟨rfl, rfl⟩ ⟨Nat.le_of_ble_eq_true rfl, Nat.le_of_ble_eq_true rfl⟩ (gPreV hG hE hx0 rfl) rfl hl.1 rfl (Nat.le_of_ble_eq_true rfl) d_ps_signature_46 ⟨Nat.le_of_ble_eq_true rfl, Nat.le_of_ble_eq_true rfl⟩) (fun r46 h46 => ?_)
        cases r46 with
        | none =>
          refine lv_astoreN (lv' := [(6, .null), (0, .ref x), (1, .int (nI f)), (2, .int (nI t)), (3, .int (nI (min t 23))), (4, .int a), (5, .int (nI (f + k)))]) hx hb d_ps_signature_49 hl (by decide) rfl (fun ls hl => ?_)
          refine lv_aloadN hx hb d_ps_signature_51 (lv_at hl 0 rfl) ?_
          refine lv_ifnullN (tgt := 81) hx hb d_ps_signature_53 (by decide) ?_
          refine lv_iinc (v := nI ((f + k) + 1)) (lv' := [(5, .int (nI ((f + k) + 1))), (6, .null), (0, .ref x), (1, .int (nI f)), (2, .int (nI t)), (3, .int (nI (min t 23))), (4, .int a)]) hx hb d_ps_signature_81 hl (k := 6) rfl (show nI (f + k) + 1 = _ from nI_1 (f + k)) (by decide) rfl (fun ls hl => ?_)
          refine lv_goto (tgt := 37) hx hb d_ps_signature_84 (by decide) ?_
          exact ih37 ((k + 1), a) _ ⟨⟨by omega, by first | (rw [ha]; simp only [sgC, itr_s]; rw [prI_nat _ _ (by omega)] at h46; simp [← h46]; done) | (rw [h76, h65, ha]; simp only [sgC, itr_s, ← h46, Option.isSome_some, if_true])⟩, lv_sub hl [2, 3, 4, 5, 6, 0] rfl⟩ (by first | omega | (simp only []; omega))
        | some a46 =>
          rw [prI_nat _ _ (by omega)] at h46
          obtain ⟨p46, g46⟩ := prN_some h46
          refine lv_astore (lv' := [(6, .ref a46), (0, .ref x), (1, .int (nI f)), (2, .int (nI t)), (3, .int (nI (min t 23))), (4, .int a), (5, .int (nI (f + k)))]) hx hb d_ps_signature_49 hl (by decide) rfl (fun ls hl => ?_)
          refine lv_aload hx hb d_ps_signature_51 (lv_at hl 0 rfl) ?_
          refine lv_ifnull hx hb d_ps_signature_53 ?_
          refine lv_aload_n hx hb d_ps_signature_56 rfl (lv_at hl 1 rfl) ?_
          refine g_get S hE.1 hG hx0 rfl in_ps 1 (by decide) tw_69 (fun _ h9 => h9) rfl d_ps_signature_57 ?_
          refine lv_iload hx hb d_ps_signature_60 (lv_at hl 5 rfl) ?_
          refine lv_aload_n hx hb d_ps_signature_62 rfl (lv_at hl 1 rfl) ?_
          refine lv_aload hx hb d_ps_signature_63 (lv_at hl 0 rfl) ?_
          refine g_reti (g_runV (As := [.ref a46]) (rest := [.int a, .ref ma]) S lk_ps_114 k_ps_bitsOf (c_ps_bitsOf l Z G x hx0 hs hC hE8 hm a46 (hpt (f + k) a46 (by omega) p46)) ⟨rfl, rfl⟩ ⟨Nat.le_of_ble_eq_true rfl, Nat.le_of_ble_eq_true rfl⟩ (gPreV hG hE hx0 rfl) rfl hl.1 rfl (Nat.le_of_ble_eq_true rfl) d_ps_signature_65 ⟨Nat.le_of_ble_eq_true rfl, Nat.le_of_ble_eq_true rfl⟩) (fun r65 h65 => ?_)
          refine lv_aload hx hb d_ps_signature_68 (lv_at hl 0 rfl) ?_
          refine g_getN S hE.1 hG (hpt (f + k) a46 (by omega) p46) rfl in_pt 2 (by decide) (hE.2 _ nw_20) (fun _ h9 => h9) rfl d_ps_signature_70 ?_
          refine lv_iconst (v := (-1)) hx hb d_ps_signature_73 (by decide) ?_
          refine lv_ixor hx hb d_ps_signature_74 ?_
          refine lv_iand hx hb d_ps_signature_75 ?_
          refine g_reti (g_runVN (As := [.int a, .int (r65 &&& ((pmk (pd (f + k))) ^^^ (-1)))]) (rest := []) S hE lk_ps_142 k_ma_takeIn (c_ma_takeIn l Z G ma hm hs hC hE8 a (r65 &&& ((pmk (pd (f + k))) ^^^ (-1)))) ⟨rfl, rfl⟩ ⟨Nat.le_of_ble_eq_true rfl, Nat.le_of_ble_eq_true rfl⟩ (gPreV hG hE hm rfl) rfl hl.1 rfl (Nat.le_of_ble_eq_true rfl) d_ps_signature_76 ⟨Nat.le_of_ble_eq_true rfl, Nat.le_of_ble_eq_true rfl⟩) (fun r76 h76 => ?_)
          refine lv_istore (lv' := [(4, .int r76), (6, .ref a46), (0, .ref x), (1, .int (nI f)), (2, .int (nI t)), (3, .int (nI (min t 23))), (5, .int (nI (f + k)))]) hx hb d_ps_signature_79 hl (by decide) rfl (fun ls hl => ?_)
          refine lv_iinc (v := nI ((f + k) + 1)) (lv' := [(5, .int (nI ((f + k) + 1))), (4, .int r76), (6, .ref a46), (0, .ref x), (1, .int (nI f)), (2, .int (nI t)), (3, .int (nI (min t 23)))]) hx hb d_ps_signature_81 hl (k := 6) rfl (show nI (f + k) + 1 = _ from nI_1 (f + k)) (by decide) rfl (fun ls hl => ?_)
          refine lv_goto (tgt := 37) hx hb d_ps_signature_84 (by decide) ?_
          exact ih37 ((k + 1), r76) _ ⟨⟨by omega, by first | (rw [ha]; simp only [sgC, itr_s]; rw [prI_nat _ _ (by omega)] at h46; simp [← h46]; done) | (rw [h76, h65, ha]; simp only [sgC, itr_s, ← h46, Option.isSome_some, if_true])⟩, lv_sub hl [3, 4, 5, 6, 1, 0] rfl⟩ (by first | omega | (simp only []; omega))
    · exact g_throw (text := "from is below 0, or to below from") S hE hl9 hX (by decide) (by decide +kernel) tw_280 tw_12 hat_60 hgd_60 (fun _ h => nomatch h) (fun _ h => nomatch h) hl.1 d_ps_signature_9 d_ps_signature_12 d_ps_signature_13 d_ps_signature_15 d_ps_signature_18 htab (Nat.le_of_ble_eq_true rfl) (Nat.le_of_ble_eq_true rfl) (Nat.le_of_ble_eq_true rfl) (Nat.le_of_ble_eq_true rfl) hlocks ⟨rfl, by first | exact Or.inl c1 | exact Or.inr (Int32.not_le.mp c6)⟩ (Nat.le_of_ble_eq_true rfl) (Nat.le_of_ble_eq_true rfl)

set_option maxHeartbeats 4000000 in
set_option maxRecDepth 100000 in
theorem c_ps_alias (l : Launch) (hl9 : l.stackTraces = false) (Z : gZ) (G : gh) (sz : Nat) (x : Nat) {sh ma pa : Nat} {mad fk : Int32} (hx0 : G x = some (.inr (0, [.ref sh, .ref ma, .ref pa, .int mad, .int fk]))) {ro D : Nat} {tp : Int32} (hm : G ma = some (.inr (2, [.ref sh, .ref ro, .int (nI D), .int tp]))) (hD0 : 1 ≤ D) (hD : D ≤ 16) (n0 q0 : Int32) : vx_Met l y_ps_alias (wd_ps_alias :: Gall) ({ frames := 6, cells := 1, slots := 6, locals := 90 }) (va_Pc [.ref x, .int n0, .int q0] (gPx Z G sz)) (vp_Sl (fun r : Int64 => ∃ N, 1 ≤ N ∧ N ≤ 60 ∧ n0 = nI N ∧ (q0 = 0 ∨ q0 = 1) ∧ r = (if q0 = 0 then lN (2 ^ (N - D) - 1) else lN (2 ^ N - 1)) / gcdC (lN (2 ^ N - 1)) (lN (2 ^ (N - D) - 1)))) (gXC (fun X9 : String => X9 = "java/lang/IllegalArgumentException" ∧ ¬ ((∃ N, 1 ≤ N ∧ N ≤ 60 ∧ n0 = nI N) ∧ (q0 = 0 ∨ q0 = 1))) sz) 1 6 (fun q => sz ≤ q) := by
  refine vx_ofW (cc := b_ps_alias) (maxL := 8) (ret := (some .long)) (by decide) rfl ?_
  intro p e s m args below meth c s₁ B hml htab hv
  obtain ⟨rfl, hsz, ⟨hG, hE⟩, hX⟩ := hv
  subst hsz
  have hx := B.exec
  have hb := B.bytes
  have hr := B.returns
  have hlocks := B.notSynchronized
  have S : CallFix p m c b_ps_alias 8 s _ Gall "PackSeeds" := ⟨hx, hb, hml, findClass_of_methodNamed B.named, fun w hw => atoms_spec (ws := wd_ps_alias :: Gall) B.pre w (List.mem_cons_of_mem _ hw)⟩
  have hGS : gS (gA G s.heap.size) s.heap Z.1 cls G s.heap [] := gS.start hG
  have hl := lv_entry ([.ref x, .int n0, .int q0]) (n := 8) (Nat.le_of_ble_eq_true rfl)
  rw [lg_entry_eq]
  generalize (lg_sl ([.ref x, .int n0, .int q0]) ++ List.replicate (8 - (lg_sl ([.ref x, .int n0, .int q0])).length) Slot.unset).toArray = ls at hl ⊢
  have hl : lv_has ls 8 [(0, .ref x), (1, .int n0), (2, .int q0)] := hl
  refine lv_iload_n hx hb d_ps_alias_0 rfl (lv_at hl 1 rfl) ?_
  refine lv_iconst (v := 1) hx hb d_ps_alias_1 (by decide) ?_
  refine lv_icmp_lt (tgt := 11) hx hb d_ps_alias_2 (by decide) (fun c2 => ?_) (fun c2 => ?_)
  · exact g_throw (text := "a stream has 1 .. 60 bits") S hE hl9 hX (by decide) (by decide +kernel) tw_280 tw_12 hat_60 hgd_60 (fun _ h => nomatch h) (fun _ h => nomatch h) hl.1 d_ps_alias_11 d_ps_alias_14 d_ps_alias_15 d_ps_alias_17 d_ps_alias_20 htab (Nat.le_of_ble_eq_true rfl) (Nat.le_of_ble_eq_true rfl) (Nat.le_of_ble_eq_true rfl) (Nat.le_of_ble_eq_true rfl) hlocks ⟨rfl, by rintro ⟨⟨N, h1, h2, rfl⟩, -⟩; first | exact (rng60' h1 h2).1 c2 | exact c8 (rng60' h1 h2).2⟩ (Nat.le_of_ble_eq_true rfl) (Nat.le_of_ble_eq_true rfl)
  · refine lv_iload_n hx hb d_ps_alias_5 rfl (lv_at hl 1 rfl) ?_
    refine lv_bipush (v := 60) hx hb d_ps_alias_6 (by decide) ?_
    refine lv_icmp_le (tgt := 21) hx hb d_ps_alias_8 (by decide) (fun c8 => ?_) (fun c8 => ?_)
    · obtain ⟨N, hN1, hN2, hN⟩ := rng60 c2 c8
      subst hN
      refine lv_iload_n hx hb d_ps_alias_21 rfl (lv_at hl 2 rfl) ?_
      refine lv_if_eq (tgt := 40) hx hb d_ps_alias_22 (by decide) (fun c22 => ?_) (fun c22 => ?_)
      · refine lv_iconst (v := 0) hx hb d_ps_alias_40 (by decide) ?_
        refine lv_iload_n hx hb d_ps_alias_41 rfl (lv_at hl 1 rfl) ?_
        refine lv_aload_n hx hb d_ps_alias_42 rfl (lv_at hl 0 rfl) ?_
        refine g_get S hE.1 hG hx0 rfl in_ps 1 (by decide) tw_69 (fun _ h9 => h9) rfl d_ps_alias_43 ?_
        refine g_getN S hE.1 hG hm rfl in_ma 2 (by decide) (hE.2 _ nw_6) (fun _ h9 => h9) rfl d_ps_alias_46 ?_
        refine lv_isub hx hb d_ps_alias_49 ?_
        refine va_mmax hx hb (hml.trans hl.1.symm) S.2.2.2.1 (S.2.2.2.2 _ tw_446) (S.2.2.2.2 _ tw_29) (S.2.2.2.2 _ tw_3) (S.2.2.2.2 _ tw_30) (Nat.le_of_ble_eq_true rfl) (Nat.le_of_ble_eq_true rfl) (Nat.le_of_ble_eq_true rfl) (Nat.le_of_ble_eq_true rfl) d_ps_alias_50 ?_
        refine g_topi (y := nI (N - D)) (frmax N (by omega) D (by omega)) ?_
        refine lv_istore_n (lv' := [(3, .int (nI (N - D))), (0, .ref x), (1, .int (nI N)), (2, .int q0)]) hx hb d_ps_alias_53 rfl hl (by decide) rfl (fun ls hl => ?_)
        refine lv_lconst (v := 1) hx hb d_ps_alias_54 (by decide) ?_
        refine lv_iload_n hx hb d_ps_alias_55 rfl (lv_at hl 0 rfl) ?_
        refine lv_lshl hx hb d_ps_alias_56 rfl ?_
        refine lv_lconst (v := 1) hx hb d_ps_alias_57 (by decide) ?_
        refine lv_lsub hx hb d_ps_alias_58 ?_
        refine g_topl (y := lN (2 ^ (N - D) - 1)) (lshl1 (N - D) (by omega)) ?_
        refine lv_topl (fun x59 e59 => ?_)
        refine lv_lstore (lv' := [(4, .long x59), (3, .int (nI (N - D))), (0, .ref x), (1, .int (nI N)), (2, .int q0)]) hx hb d_ps_alias_59 hl (by decide) rfl (fun ls hl => ?_)
        refine lv_lconst (v := 1) hx hb d_ps_alias_61 (by decide) ?_
        refine lv_iload_n hx hb d_ps_alias_62 rfl (lv_at hl 3 rfl) ?_
        refine lv_lshl hx hb d_ps_alias_63 rfl ?_
        refine lv_lconst (v := 1) hx hb d_ps_alias_64 (by decide) ?_
        refine lv_lsub hx hb d_ps_alias_65 ?_
        refine g_topl (y := lN (2 ^ N - 1)) (lshl1 N (by omega)) ?_
        refine lv_topl (fun x66 e66 => ?_)
        refine lv_lstore (lv' := [(6, .long x66), (4, .long x59), (3, .int (nI (N - D))), (0, .ref x), (1, .int (nI N)), (2, .int q0)]) hx hb d_ps_alias_66 hl (by decide) rfl (fun ls hl => ?_)
        refine lv_iload_n hx hb d_ps_alias_68 rfl (lv_at hl 5 rfl) ?_
        refine lv_if_ne (tgt := 77) hx hb d_ps_alias_69 (by decide) (fun c69 => ?_) (fun c69 => ?_)
        · refine lv_lload hx hb d_ps_alias_77 (lv_at hl 0 rfl) ?_
          refine lv_lload hx hb d_ps_alias_79 (lv_at hl 0 rfl) ?_
          refine lv_lload hx hb d_ps_alias_81 (lv_at hl 1 rfl) ?_
          refine g_retl (g_runS (As := [.long x66, .long x59]) (rest := [.long x66]) S lk_ps_156 k_ps_greatestDivisor (c_ps_greatestDivisor l Z G x66 x59) ⟨rfl, rfl⟩ ⟨Nat.le_of_ble_eq_true rfl, Nat.le_of_ble_eq_true rfl⟩ (gPreS hG hE) rfl hl.1 rfl (Nat.le_of_ble_eq_true rfl) d_ps_alias_83 ⟨Nat.le_of_ble_eq_true rfl, Nat.le_of_ble_eq_true rfl⟩) (fun r83 h83 => ?_)
          refine lv_ldiv hx hb d_ps_alias_86 (by rw [h83]; exact gcdC_ne _ _) ?_
          refine W.widen (k := 1) (n := 6) (Nat.le_of_ble_eq_true rfl) (Nat.le_of_ble_eq_true rfl) ?_
          exact vx_ret (W.lret hx hb hr (fun t9 ht9 hW9 => ⟨_, rfl, ⟨N, hN1, hN2, rfl, by first | exact Or.inl c22 | exact Or.inr c27, by rw [h83, e66, e59]; simp [c69]⟩, ht9⟩) (fun _ h => nomatch h) d_ps_alias_87)
        · refine lv_lload hx hb d_ps_alias_72 (lv_at hl 1 rfl) ?_
          refine lv_goto (tgt := 79) hx hb d_ps_alias_74 (by decide) ?_
          refine lv_lload hx hb d_ps_alias_79 (lv_at hl 0 rfl) ?_
          refine lv_lload hx hb d_ps_alias_81 (lv_at hl 1 rfl) ?_
          refine g_retl (g_runS (As := [.long x66, .long x59]) (rest := [.long x59]) S lk_ps_156 k_ps_greatestDivisor (c_ps_greatestDivisor l Z G x66 x59) ⟨rfl, rfl⟩ ⟨Nat.le_of_ble_eq_true rfl, Nat.le_of_ble_eq_true rfl⟩ (gPreS hG hE) rfl hl.1 rfl (Nat.le_of_ble_eq_true rfl) d_ps_alias_83 ⟨Nat.le_of_ble_eq_true rfl, Nat.le_of_ble_eq_true rfl⟩) (fun r83 h83 => ?_)
          refine lv_ldiv hx hb d_ps_alias_86 (by rw [h83]; exact gcdC_ne _ _) ?_
          refine W.widen (k := 1) (n := 6) (Nat.le_of_ble_eq_true rfl) (Nat.le_of_ble_eq_true rfl) ?_
          exact vx_ret (W.lret hx hb hr (fun t9 ht9 hW9 => ⟨_, rfl, ⟨N, hN1, hN2, rfl, by first | exact Or.inl c22 | exact Or.inr c27, by rw [h83, e66, e59]; simp [c69]⟩, ht9⟩) (fun _ h => nomatch h) d_ps_alias_87)
      · refine lv_iload_n hx hb d_ps_alias_25 rfl (lv_at hl 2 rfl) ?_
        refine lv_iconst (v := 1) hx hb d_ps_alias_26 (by decide) ?_
        refine lv_icmp_eq (tgt := 40) hx hb d_ps_alias_27 (by decide) (fun c27 => ?_) (fun c27 => ?_)
        · refine lv_iconst (v := 0) hx hb d_ps_alias_40 (by decide) ?_
          refine lv_iload_n hx hb d_ps_alias_41 rfl (lv_at hl 1 rfl) ?_
          refine lv_aload_n hx hb d_ps_alias_42 rfl (lv_at hl 0 rfl) ?_
          refine g_get S hE.1 hG hx0 rfl in_ps 1 (by decide) tw_69 (fun _ h9 => h9) rfl d_ps_alias_43 ?_
          refine g_getN S hE.1 hG hm rfl in_ma 2 (by decide) (hE.2 _ nw_6) (fun _ h9 => h9) rfl d_ps_alias_46 ?_
          refine lv_isub hx hb d_ps_alias_49 ?_
          refine va_mmax hx hb (hml.trans hl.1.symm) S.2.2.2.1 (S.2.2.2.2 _ tw_446) (S.2.2.2.2 _ tw_29) (S.2.2.2.2 _ tw_3) (S.2.2.2.2 _ tw_30) (Nat.le_of_ble_eq_true rfl) (Nat.le_of_ble_eq_true rfl) (Nat.le_of_ble_eq_true rfl) (Nat.le_of_ble_eq_true rfl) d_ps_alias_50 ?_
          refine g_topi (y := nI (N - D)) (frmax N (by omega) D (by omega)) ?_
          refine lv_istore_n (lv' := [(3, .int (nI (N - D))), (0, .ref x), (1, .int (nI N)), (2, .int q0)]) hx hb d_ps_alias_53 rfl hl (by decide) rfl (fun ls hl => ?_)
          refine lv_lconst (v := 1) hx hb d_ps_alias_54 (by decide) ?_
          refine lv_iload_n hx hb d_ps_alias_55 rfl (lv_at hl 0 rfl) ?_
          refine lv_lshl hx hb d_ps_alias_56 rfl ?_
          refine lv_lconst (v := 1) hx hb d_ps_alias_57 (by decide) ?_
          refine lv_lsub hx hb d_ps_alias_58 ?_
          refine g_topl (y := lN (2 ^ (N - D) - 1)) (lshl1 (N - D) (by omega)) ?_
          refine lv_topl (fun x59 e59 => ?_)
          refine lv_lstore (lv' := [(4, .long x59), (3, .int (nI (N - D))), (0, .ref x), (1, .int (nI N)), (2, .int q0)]) hx hb d_ps_alias_59 hl (by decide) rfl (fun ls hl => ?_)
          refine lv_lconst (v := 1) hx hb d_ps_alias_61 (by decide) ?_
          refine lv_iload_n hx hb d_ps_alias_62 rfl (lv_at hl 3 rfl) ?_
          refine lv_lshl hx hb d_ps_alias_63 rfl ?_
          refine lv_lconst (v := 1) hx hb d_ps_alias_64 (by decide) ?_
          refine lv_lsub hx hb d_ps_alias_65 ?_
          refine g_topl (y := lN (2 ^ N - 1)) (lshl1 N (by omega)) ?_
          refine lv_topl (fun x66 e66 => ?_)
          refine lv_lstore (lv' := [(6, .long x66), (4, .long x59), (3, .int (nI (N - D))), (0, .ref x), (1, .int (nI N)), (2, .int q0)]) hx hb d_ps_alias_66 hl (by decide) rfl (fun ls hl => ?_)
          refine lv_iload_n hx hb d_ps_alias_68 rfl (lv_at hl 5 rfl) ?_
          refine lv_if_ne (tgt := 77) hx hb d_ps_alias_69 (by decide) (fun c69 => ?_) (fun c69 => ?_)
          · refine lv_lload hx hb d_ps_alias_77 (lv_at hl 0 rfl) ?_
            refine lv_lload hx hb d_ps_alias_79 (lv_at hl 0 rfl) ?_
            refine lv_lload hx hb d_ps_alias_81 (lv_at hl 1 rfl) ?_
            refine g_retl (g_runS (As := [.long x66, .long x59]) (rest := [.long x66]) S lk_ps_156 k_ps_greatestDivisor (c_ps_greatestDivisor l Z G x66 x59) ⟨rfl, rfl⟩ ⟨Nat.le_of_ble_eq_true rfl, Nat.le_of_ble_eq_true rfl⟩ (gPreS hG hE) rfl hl.1 rfl (Nat.le_of_ble_eq_true rfl) d_ps_alias_83 ⟨Nat.le_of_ble_eq_true rfl, Nat.le_of_ble_eq_true rfl⟩) (fun r83 h83 => ?_)
            refine lv_ldiv hx hb d_ps_alias_86 (by rw [h83]; exact gcdC_ne _ _) ?_
            refine W.widen (k := 1) (n := 6) (Nat.le_of_ble_eq_true rfl) (Nat.le_of_ble_eq_true rfl) ?_
            exact vx_ret (W.lret hx hb hr (fun t9 ht9 hW9 => ⟨_, rfl, ⟨N, hN1, hN2, rfl, by first | exact Or.inl c22 | exact Or.inr c27, by rw [h83, e66, e59]; simp [c69]⟩, ht9⟩) (fun _ h => nomatch h) d_ps_alias_87)
          · refine lv_lload hx hb d_ps_alias_72 (lv_at hl 1 rfl) ?_
            refine lv_goto (tgt := 79) hx hb d_ps_alias_74 (by decide) ?_
            refine lv_lload hx hb d_ps_alias_79 (lv_at hl 0 rfl) ?_
            refine lv_lload hx hb d_ps_alias_81 (lv_at hl 1 rfl) ?_
            refine g_retl (g_runS (As := [.long x66, .long x59]) (rest := [.long x59]) S lk_ps_156 k_ps_greatestDivisor (c_ps_greatestDivisor l Z G x66 x59) ⟨rfl, rfl⟩ ⟨Nat.le_of_ble_eq_true rfl, Nat.le_of_ble_eq_true rfl⟩ (gPreS hG hE) rfl hl.1 rfl (Nat.le_of_ble_eq_true rfl) d_ps_alias_83 ⟨Nat.le_of_ble_eq_true rfl, Nat.le_of_ble_eq_true rfl⟩) (fun r83 h83 => ?_)
            refine lv_ldiv hx hb d_ps_alias_86 (by rw [h83]; exact gcdC_ne _ _) ?_
            refine W.widen (k := 1) (n := 6) (Nat.le_of_ble_eq_true rfl) (Nat.le_of_ble_eq_true rfl) ?_
            exact vx_ret (W.lret hx hb hr (fun t9 ht9 hW9 => ⟨_, rfl, ⟨N, hN1, hN2, rfl, by first | exact Or.inl c22 | exact Or.inr c27, by rw [h83, e66, e59]; simp [c69]⟩, ht9⟩) (fun _ h => nomatch h) d_ps_alias_87)
        · exact g_throw (text := "a part is 0 or 1") S hE hl9 hX (by decide) (by decide +kernel) tw_280 tw_12 hat_60 hgd_60 (fun _ h => nomatch h) (fun _ h => nomatch h) hl.1 d_ps_alias_30 d_ps_alias_33 d_ps_alias_34 d_ps_alias_36 d_ps_alias_39 htab (Nat.le_of_ble_eq_true rfl) (Nat.le_of_ble_eq_true rfl) (Nat.le_of_ble_eq_true rfl) (Nat.le_of_ble_eq_true rfl) hlocks ⟨rfl, by rintro ⟨-, h⟩; rcases h with h | h; exact c22 h; exact c27 h⟩ (Nat.le_of_ble_eq_true rfl) (Nat.le_of_ble_eq_true rfl)
    · exact g_throw (text := "a stream has 1 .. 60 bits") S hE hl9 hX (by decide) (by decide +kernel) tw_280 tw_12 hat_60 hgd_60 (fun _ h => nomatch h) (fun _ h => nomatch h) hl.1 d_ps_alias_11 d_ps_alias_14 d_ps_alias_15 d_ps_alias_17 d_ps_alias_20 htab (Nat.le_of_ble_eq_true rfl) (Nat.le_of_ble_eq_true rfl) (Nat.le_of_ble_eq_true rfl) (Nat.le_of_ble_eq_true rfl) hlocks ⟨rfl, by rintro ⟨⟨N, h1, h2, rfl⟩, -⟩; first | exact (rng60' h1 h2).1 c2 | exact c8 (rng60' h1 h2).2⟩ (Nat.le_of_ble_eq_true rfl) (Nat.le_of_ble_eq_true rfl)

set_option maxHeartbeats 4000000 in
set_option maxRecDepth 100000 in
theorem c_ps_count (l : Launch) (hl9 : l.stackTraces = false) (Z : gZ) (G : gh) (sz : Nat) (x : Nat) {sh ma pa : Nat} {mad fk : Int32} (hx0 : G x = some (.inr (0, [.ref sh, .ref ma, .ref pa, .int mad, .int fk]))) {C E : Nat} (hs : G sh = some (.inr (1, [.int (nI C), .int (nI E)]))) (hC : C ≤ 4) (hE8 : E ≤ 8) {ro : Nat} {stg tp : Int32} (hm : G ma = some (.inr (2, [.ref sh, .ref ro, .int stg, .int tp]))) {pt : Nat → Option Nat} {pd : Nat → Pat} (hpa : G pa = some (.inl (Z.2 3, 24, .inr (.inr (.inr (.inr pt)))))) (hpt : ∀ i a, i < 24 → pt i = some a → G a = some (.inr (3, pfs (pd i)))) (w0 : Int32) : vx_Met l y_ps_count (wd_ps_count :: Gall) ({ frames := 6, cells := 1, slots := 6, locals := 90 }) (va_Pc [.ref x, .int w0] (gPx Z G sz)) (vp_Si (fun r : Int32 => ∃ j, j < 5 ∧ w0 = nI j ∧ r = cnC stg pt pd j)) (gXC (fun X9 : String => X9 = "java/lang/IndexOutOfBoundsException" ∧ ¬ ∃ j, j < 5 ∧ w0 = nI j) sz) 1 6 (fun q => sz ≤ q) := by
  refine vx_ofW (cc := b_ps_count) (maxL := 2) (ret := (some .int)) (by decide) rfl ?_
  intro p e s m args below meth c s₁ B hml htab hv
  obtain ⟨rfl, hsz, ⟨hG, hE⟩, hX⟩ := hv
  subst hsz
  have hx := B.exec
  have hb := B.bytes
  have hr := B.returns
  have hlocks := B.notSynchronized
  have S : CallFix p m c b_ps_count 2 s _ Gall "PackSeeds" := ⟨hx, hb, hml, findClass_of_methodNamed B.named, fun w hw => atoms_spec (ws := wd_ps_count :: Gall) B.pre w (List.mem_cons_of_mem _ hw)⟩
  have hGS : gS (gA G s.heap.size) s.heap Z.1 cls G s.heap [] := gS.start hG
  have hl := lv_entry ([.ref x, .int w0]) (n := 2) (Nat.le_of_ble_eq_true rfl)
  rw [lg_entry_eq]
  generalize (lg_sl ([.ref x, .int w0]) ++ List.replicate (2 - (lg_sl ([.ref x, .int w0])).length) Slot.unset).toArray = ls at hl ⊢
  have hl : lv_has ls 2 [(0, .ref x), (1, .int w0)] := hl
  refine lv_iload_n hx hb d_ps_count_0 rfl (lv_at hl 1 rfl) ?_
  rcases pk_ix w0 (n := 5) (by omega) with w1 | w1 | ⟨j1, hj1, w1⟩
  · refine lv_tableOut (tgt := 68) hx hb d_ps_count_1 (Or.inl (by rw [Int32.lt_iff_toInt_lt] at w1; exact w1)) (by decide) ?_
    exact g_throw (text := "there is no such what") S hE hl9 hX (by decide) (by decide +kernel) tw_256 tw_11 hat_92 hgd_92 (fun _ h => nomatch h) (fun _ h => nomatch h) hl.1 d_ps_count_68 d_ps_count_71 d_ps_count_72 d_ps_count_74 d_ps_count_77 htab (Nat.le_of_ble_eq_true rfl) (Nat.le_of_ble_eq_true rfl) (Nat.le_of_ble_eq_true rfl) (Nat.le_of_ble_eq_true rfl) hlocks ⟨rfl, by rintro ⟨j, hj, rfl⟩; first | exact absurd w1 (nI_pos (by omega)) | exact absurd w1 (nI_ge hj (by omega))⟩ (Nat.le_of_ble_eq_true rfl) (Nat.le_of_ble_eq_true rfl)
  · refine lv_tableOut (tgt := 68) hx hb d_ps_count_1 (Or.inr (by rw [Int32.le_iff_toInt_le, nI_toInt (by omega)] at w1; omega)) (by decide) ?_
    exact g_throw (text := "there is no such what") S hE hl9 hX (by decide) (by decide +kernel) tw_256 tw_11 hat_92 hgd_92 (fun _ h => nomatch h) (fun _ h => nomatch h) hl.1 d_ps_count_68 d_ps_count_71 d_ps_count_72 d_ps_count_74 d_ps_count_77 htab (Nat.le_of_ble_eq_true rfl) (Nat.le_of_ble_eq_true rfl) (Nat.le_of_ble_eq_true rfl) (Nat.le_of_ble_eq_true rfl) hlocks ⟨rfl, by rintro ⟨j, hj, rfl⟩; first | exact absurd w1 (nI_pos (by omega)) | exact absurd w1 (nI_ge hj (by omega))⟩ (Nat.le_of_ble_eq_true rfl) (Nat.le_of_ble_eq_true rfl)
  · rcases (show j1 = 0 ∨ j1 = 1 ∨ j1 = 2 ∨ j1 = 3 ∨ j1 = 4 by omega) with rfl | rfl | rfl | rfl | rfl
    · refine g_topi w1 ?_
      refine lv_tableIn (off := 35) (tgt := 36) hx hb d_ps_count_1 (by decide) (by decide) (by decide) (by decide) ?_
      refine lv_aload_n hx hb d_ps_count_36 rfl (lv_at hl 0 rfl) ?_
      refine g_reti (g_runV (As := []) (rest := []) S lk_ps_72 k_ps_countPresent (c_ps_countPresent l Z G x hx0 hpa hpt) ⟨rfl, rfl⟩ ⟨Nat.le_of_ble_eq_true rfl, Nat.le_of_ble_eq_true rfl⟩ (gPreV hG hE hx0 rfl) rfl hl.1 rfl (Nat.le_of_ble_eq_true rfl) d_ps_count_37 ⟨Nat.le_of_ble_eq_true rfl, Nat.le_of_ble_eq_true rfl⟩) (fun r37 h37 => ?_)
      refine W.widen (k := 1) (n := 6) (Nat.le_of_ble_eq_true rfl) (Nat.le_of_ble_eq_true rfl) ?_
      exact vx_ret (W.iret hx hb hr (fun t9 ht9 hW9 => ⟨_, rfl, ⟨0, by omega, w1, h37⟩, ht9⟩) (fun _ h => nomatch h) d_ps_count_40)
    · refine g_topi w1 ?_
      refine lv_tableIn (off := 40) (tgt := 41) hx hb d_ps_count_1 (by decide) (by decide) (by decide) (by decide) ?_
      refine lv_aload_n hx hb d_ps_count_41 rfl (lv_at hl 0 rfl) ?_
      refine g_reti (g_runV (As := []) (rest := []) S lk_ps_171 k_ps_countSeeded (c_ps_countSeeded l Z G x hx0 hpa hpt) ⟨rfl, rfl⟩ ⟨Nat.le_of_ble_eq_true rfl, Nat.le_of_ble_eq_true rfl⟩ (gPreV hG hE hx0 rfl) rfl hl.1 rfl (Nat.le_of_ble_eq_true rfl) d_ps_count_42 ⟨Nat.le_of_ble_eq_true rfl, Nat.le_of_ble_eq_true rfl⟩) (fun r42 h42 => ?_)
      refine W.widen (k := 1) (n := 6) (Nat.le_of_ble_eq_true rfl) (Nat.le_of_ble_eq_true rfl) ?_
      exact vx_ret (W.iret hx hb hr (fun t9 ht9 hW9 => ⟨_, rfl, ⟨1, by omega, w1, h42⟩, ht9⟩) (fun _ h => nomatch h) d_ps_count_45)
    · refine g_topi w1 ?_
      refine lv_tableIn (off := 45) (tgt := 46) hx hb d_ps_count_1 (by decide) (by decide) (by decide) (by decide) ?_
      refine lv_aload_n hx hb d_ps_count_46 rfl (lv_at hl 0 rfl) ?_
      refine g_reti (g_runV (As := []) (rest := []) S lk_ps_174 k_ps_countCared (c_ps_countCared l Z G x hx0 hpa hpt) ⟨rfl, rfl⟩ ⟨Nat.le_of_ble_eq_true rfl, Nat.le_of_ble_eq_true rfl⟩ (gPreV hG hE hx0 rfl) rfl hl.1 rfl (Nat.le_of_ble_eq_true rfl) d_ps_count_47 ⟨Nat.le_of_ble_eq_true rfl, Nat.le_of_ble_eq_true rfl⟩) (fun r47 h47 => ?_)
      refine W.widen (k := 1) (n := 6) (Nat.le_of_ble_eq_true rfl) (Nat.le_of_ble_eq_true rfl) ?_
      exact vx_ret (W.iret hx hb hr (fun t9 ht9 hW9 => ⟨_, rfl, ⟨2, by omega, w1, h47⟩, ht9⟩) (fun _ h => nomatch h) d_ps_count_50)
    · refine g_topi w1 ?_
      refine lv_tableIn (off := 50) (tgt := 51) hx hb d_ps_count_1 (by decide) (by decide) (by decide) (by decide) ?_
      refine lv_aload_n hx hb d_ps_count_51 rfl (lv_at hl 0 rfl) ?_
      refine g_get S hE.1 hG hx0 rfl in_ps 1 (by decide) tw_69 (fun _ h9 => h9) rfl d_ps_count_52 ?_
      refine g_getN S hE.1 hG hm rfl in_ma 2 (by decide) (hE.2 _ nw_6) (fun _ h9 => h9) rfl d_ps_count_55 ?_
      refine W.widen (k := 1) (n := 6) (Nat.le_of_ble_eq_true rfl) (Nat.le_of_ble_eq_true rfl) ?_
      exact vx_ret (W.iret hx hb hr (fun t9 ht9 hW9 => ⟨_, rfl, ⟨3, by omega, w1, rfl⟩, ht9⟩) (fun _ h => nomatch h) d_ps_count_58)
    · refine g_topi w1 ?_
      refine lv_tableIn (off := 58) (tgt := 59) hx hb d_ps_count_1 (by decide) (by decide) (by decide) (by decide) ?_
      refine lv_aload_n hx hb d_ps_count_59 rfl (lv_at hl 0 rfl) ?_
      refine lv_iconst (v := (-1)) hx hb d_ps_count_60 (by decide) ?_
      refine g_reti (g_runV (As := [.int (-1)]) (rest := []) S lk_ps_125 k_ps_faultsOfAllBut (c_ps_faultsOfAllBut l Z G x hx0 hpa hpt (-1)) ⟨rfl, rfl⟩ ⟨Nat.le_of_ble_eq_true rfl, Nat.le_of_ble_eq_true rfl⟩ (gPreV hG hE hx0 rfl) rfl hl.1 rfl (Nat.le_of_ble_eq_true rfl) d_ps_count_61 ⟨Nat.le_of_ble_eq_true rfl, Nat.le_of_ble_eq_true rfl⟩) (fun r61 h61 => ?_)
      refine g_reti (g_runS (As := [.int r61]) (rest := []) S lk_ps_177 k_in_bitCount (c_in_bitCount l Z G r61) ⟨rfl, rfl⟩ ⟨Nat.le_of_ble_eq_true rfl, Nat.le_of_ble_eq_true rfl⟩ (gPreS hG hE) rfl hl.1 rfl (Nat.le_of_ble_eq_true rfl) d_ps_count_64 ⟨Nat.le_of_ble_eq_true rfl, Nat.le_of_ble_eq_true rfl⟩) (fun r64 h64 => ?_)
      refine W.widen (k := 1) (n := 6) (Nat.le_of_ble_eq_true rfl) (Nat.le_of_ble_eq_true rfl) ?_
      exact vx_ret (W.iret hx hb hr (fun t9 ht9 hW9 => ⟨_, rfl, ⟨4, by omega, w1, by rw [h64, h61]; rfl⟩, ht9⟩) (fun _ h => nomatch h) d_ps_count_67)
end
section
/-! The heap with the patterns' numbers written into it. -/
def patI (pt : Nat → Option Nat) (a : Nat) : Option Nat := (List.range 24).find? (fun i => decide (pt i = some a))
def patG (G : gh) (pt : Nat → Option Nat) (pd : Nat → Pat) : gh := fun a => match patI pt a with
  | some i => some (.inr (3, pfs (pd i)))
  | none => G a
def ptInj (pt : Nat → Option Nat) : Prop := ∀ i j a, i < 24 → j < 24 → pt i = some a → pt j = some a → i = j
theorem patI_some {pt : Nat → Option Nat} {a i : Nat} (h : patI pt a = some i) : i < 24 ∧ pt i = some a := by
  have h1 := List.find?_some h
  have h2 := List.mem_of_find?_eq_some h
  exact ⟨List.mem_range.mp h2, by simpa using h1⟩
theorem patI_none {pt : Nat → Option Nat} {a : Nat} (h : patI pt a = none) : ∀ i, i < 24 → pt i ≠ some a := by
  intro i hi hp
  have := List.find?_eq_none.mp h i (List.mem_range.mpr hi)
  simp [hp] at this
theorem patI_of {pt : Nat → Option Nat} (hj : ptInj pt) {a i : Nat} (hi : i < 24) (hp : pt i = some a) : patI pt a = some i := by
  cases h : patI pt a with
  | none => exact absurd hp (patI_none h i hi)
  | some k =>
    obtain ⟨h1, h2⟩ := patI_some h
    rw [hj i k a hi h1 hp h2]
theorem patG_get {G : gh} {pt : Nat → Option Nat} {pd : Nat → Pat} (hj : ptInj pt) {a i : Nat} (hi : i < 24) (hp : pt i = some a) : patG G pt pd a = some (.inr (3, pfs (pd i))) := by
  unfold patG
  rw [patI_of hj hi hp]
theorem patG_off {G : gh} {pt : Nat → Option Nat} {pd : Nat → Pat} {a : Nat} (h : ∀ i, i < 24 → pt i ≠ some a) : patG G pt pd a = G a := by
  unfold patG
  cases h1 : patI pt a with
  | none => rfl
  | some k => exact absurd (patI_some h1).2 (h k (patI_some h1).1)
theorem patG_keep {G : gh} {pt : Nat → Option Nat} {pd pd' : Nat → Pat} (hpt : ∀ i a, i < 24 → pt i = some a → G a = some (.inr (3, pfs (pd i)))) {b : Nat} {e : va_E} (hb : G b = some e) (hne : ∀ q : Pat, e ≠ .inr (3, pfs q)) : patG G pt pd' b = some e := by
  rw [patG_off]
  · exact hb
  · intro i hi hp
    have := hpt i b hi hp
    rw [hb] at this
    exact hne _ (Option.some.inj this)
theorem patG_self {G : gh} {pt : Nat → Option Nat} {pd : Nat → Pat} (hpt : ∀ i a, i < 24 → pt i = some a → G a = some (.inr (3, pfs (pd i)))) : patG G pt pd = G := by
  funext a
  unfold patG
  cases h : patI pt a with
  | none => rfl
  | some i => exact (hpt i a (patI_some h).1 (patI_some h).2).symm
theorem patG_congr {G : gh} {pt : Nat → Option Nat} {pd pd' : Nat → Pat} (h : ∀ i a, i < 24 → pt i = some a → pd i = pd' i) : patG G pt pd = patG G pt pd' := by
  funext a
  unfold patG
  cases h1 : patI pt a with
  | none => rfl
  | some i => simp only [h i a (patI_some h1).1 (patI_some h1).2]
theorem patG_up {G : gh} {pt : Nat → Option Nat} {pd : Nat → Pat} (hj : ptInj pt) {a i : Nat} (hi : i < 24) (hp : pt i = some a) (q : Pat) : gup (patG G pt pd) a (.inr (3, pfs q)) = patG G pt (va_up pd i q) := by
  funext b
  by_cases hb : b = a
  · subst hb
    rw [gup_self, patG_get hj hi hp, va_up_self]
  · rw [gup_ne _ _ hb]
    unfold patG
    cases h1 : patI pt b with
    | none => rfl
    | some k =>
      have h2 := patI_some h1
      have hk : k ≠ i := fun z => hb (by subst z; exact Option.some.inj (h2.2.symm.trans hp))
      simp only [va_up_ne _ _ hk]
theorem patG_patG {G : gh} {pt : Nat → Option Nat} {pd pd' : Nat → Pat} : patG (patG G pt pd) pt pd' = patG G pt pd' := by
  funext a
  unfold patG
  cases patI pt a <;> rfl
/-- a pattern's writes -/
def qsd (q : Pat) (v : Int32) : Pat := (pca q, pva q, pmk q, pfa q, v, pgn q)
def qgn (q : Pat) (v : Int32) : Pat := (pca q, pva q, pmk q, pfa q, psd q, v)
def qfa (q : Pat) (v : Int32) : Pat := (pca q, pva q, pmk q, v, psd q, pgn q)
def qmk (q : Pat) (v : Int32) : Pat := (pca q, pva q, v, pfa q, psd q, pgn q)
def qcare (q : Pat) (pl v : Int32) : Pat := (if v = -1 then pca q &&& (pl ^^^ (-1)) else pca q ||| pl, if v = 1 then pva q ||| pl else pva q &&& (pl ^^^ (-1)), pmk q, pfa q, -1, pgn q)
def qtake (q o : Pat) : Pat := (pca q ||| pca o, pva q ||| pva o, pmk q ||| pmk o, pfa q ||| pfa o, -1, pgn q)
theorem vp_cell_lcongr {c : ClassId} {n : Nat} {f g : Nat → Int64} (h : ∀ j, j < n → f j = g j) : vp_cell c (n, .inr (.inl f)) = vp_cell c (n, .inr (.inl g)) := by
  rw [vp_cell_l, vp_cell_l]
  unfold arrV
  congr 1
  apply Array.ext
  · simp
  · intro i h1 h2
    simp only [Array.getElem_ofFn]
    rw [h i (by simpa using h1)]
theorem gS.lcongr {A : Nat → Prop} {H0 : Heap} {D : va_G} {cl : List vw_C} {G : gh} {H : Heap} {locs : List Loc} {a n : Nat} {c : ClassId} {f g : Nat → Int64} (h : gS A H0 D cl (gup G a (.inl (c, n, .inr (.inl f)))) H locs) (hfg : ∀ j, j < n → f j = g j) : gS A H0 D cl (gup G a (.inl (c, n, .inr (.inl g)))) H locs := by
  refine ⟨fun q e hq => ?_, fun q hq => ?_, h.2.2⟩
  · by_cases hqa : q = a
    · subst hqa
      rw [gup_self] at hq
      cases hq
      have h1 : H[q]? = some (vp_cell c (n, .inr (.inl f))) := h.1 q _ (gup_self _ _ _)
      show H[q]? = some (vp_cell c (n, .inr (.inl g)))
      rw [h1, vp_cell_lcongr hfg]
    · rw [gup_ne _ _ hqa] at hq
      exact h.1 q e (by rw [gup_ne _ _ hqa]; exact hq)
  · refine h.2.1 q (fun z => hq ?_)
    by_cases hqa : q = a
    · subst hqa; rw [gup_self] at z; cases z
    · rw [gup_ne _ _ hqa] at z ⊢; exact z
end
section
set_option maxHeartbeats 4000000 in
set_option maxRecDepth 100000 in
theorem c_pt_init (l : Launch) (Z : gZ) (G : gh) (sz : Nat) (h : Nat) (hp : G h = some (.inr (3, [.int 0, .int 0, .int 0, .int 0, .int 0, .int 0]))) : Met l y_pt_init (wd_pt_init :: Gall) ({ frames := 1, cells := 0, slots := 0, locals := 20 }) (va_Pc [.ref h] (gPw Z G sz)) (va_Qv (fun (G9 : gh) => G9 = gup G h (.inr (3, [.int 0, .int 0, .int 0, .int 0, .int (-1), .int 0]))) (gW Z G sz) (gA G sz)) 0 0 (gA G sz) := by
  refine Met.ofW (cc := b_pt_init) (maxL := 1) (ret := none) (by decide) rfl ?_
  intro p e s m args below meth c s₁ B hml hv
  obtain ⟨rfl, hsz, hG, hE⟩ := hv
  subst hsz
  have hx := B.exec
  have hb := B.bytes
  have hr := B.returns
  have hlocks := B.notSynchronized
  have hin : meth.name = "<init>" := (name_of_methodNamed B.named B.method).1
  have S : CallFix p m c b_pt_init 1 s _ Gall "PackSeeds$Pattern" := ⟨hx, hb, hml, findClass_of_methodNamed B.named, fun w hw => atoms_spec (ws := wd_pt_init :: Gall) B.pre w (List.mem_cons_of_mem _ hw)⟩
  have hG : gS (gA G s.heap.size) s.heap Z.1 cls G s.heap [] := gS.start hG
  have hl := lv_entry ([.ref h]) (n := 1) (Nat.le_of_ble_eq_true rfl)
  rw [lg_entry_eq]
  generalize (lg_sl ([.ref h]) ++ List.replicate (1 - (lg_sl ([.ref h])).length) Slot.unset).toArray = ls at hl ⊢
  have hl : lv_has ls 1 [(0, .ref h)] := hl
  refine lv_aload_n hx hb d_pt_init_0 rfl (lv_at hl 0 rfl) ?_
  refine W.objInit hx hb S.2.2.2.1 (S.2.2.2.2 _ tw_217) (S.2.2.2.2 _ tw_20) (S.2.2.2.2 _ tw_21) rfl (by rw [hml]; exact hl.1) rfl d_pt_init_1 (Nat.le_of_ble_eq_true rfl) (Nat.le_of_ble_eq_true rfl) ?_
  refine W.eq (g2 := F0 m 4 ls []) rfl ?_
  refine lv_aload_n hx hb d_pt_init_4 rfl (lv_at hl 0 rfl) ?_
  refine lv_iconst (v := 0) hx hb d_pt_init_5 (by decide) ?_
  refine g_put S hE.1 hG hp rfl in_pt ty_pt tyok_pt nm_pt 0 (by decide) tw_218 (fun _ h9 => h9) rfl (ty := .int) (by decide +kernel) rfl rfl (Nat.le_of_ble_eq_true rfl) d_pt_init_6 (fun H locs hG => ?_)
  have hG : gS (gA G s.heap.size) s.heap Z.1 cls (gup G h (.inr (3, [.int 0, .int 0, .int 0, .int 0, .int 0, .int 0]))) H locs := hG
  generalize eG6 : gup G h (.inr (3, [.int 0, .int 0, .int 0, .int 0, .int 0, .int 0])) = G6 at hG
  have f6 : G6 h = some (.inr (3, [.int 0, .int 0, .int 0, .int 0, .int 0, .int 0])) := by rw [← eG6]; exact gup_self _ _ _
  refine lv_aload_n hx hb d_pt_init_9 rfl (lv_at hl 0 rfl) ?_
  refine lv_iconst (v := 0) hx hb d_pt_init_10 (by decide) ?_
  refine g_put S hE.1 hG f6 rfl in_pt ty_pt tyok_pt nm_pt 1 (by decide) tw_220 (fun _ h9 => h9) rfl (ty := .int) (by decide +kernel) rfl rfl (Nat.le_of_ble_eq_true rfl) d_pt_init_11 (fun H locs hG => ?_)
  have hG : gS (gA G s.heap.size) s.heap Z.1 cls (gup G6 h (.inr (3, [.int 0, .int 0, .int 0, .int 0, .int 0, .int 0]))) H locs := hG
  generalize eG11 : gup G6 h (.inr (3, [.int 0, .int 0, .int 0, .int 0, .int 0, .int 0])) = G11 at hG
  have f11 : G11 h = some (.inr (3, [.int 0, .int 0, .int 0, .int 0, .int 0, .int 0])) := by rw [← eG11]; exact gup_self _ _ _
  refine lv_aload_n hx hb d_pt_init_14 rfl (lv_at hl 0 rfl) ?_
  refine lv_iconst (v := 0) hx hb d_pt_init_15 (by decide) ?_
  refine g_put S hE.1 hG f11 rfl in_pt ty_pt tyok_pt nm_pt 2 (by decide) tw_222 (fun _ h9 => h9) rfl (ty := .int) (by decide +kernel) rfl rfl (Nat.le_of_ble_eq_true rfl) d_pt_init_16 (fun H locs hG => ?_)
  have hG : gS (gA G s.heap.size) s.heap Z.1 cls (gup G11 h (.inr (3, [.int 0, .int 0, .int 0, .int 0, .int 0, .int 0]))) H locs := hG
  generalize eG16 : gup G11 h (.inr (3, [.int 0, .int 0, .int 0, .int 0, .int 0, .int 0])) = G16 at hG
  have f16 : G16 h = some (.inr (3, [.int 0, .int 0, .int 0, .int 0, .int 0, .int 0])) := by rw [← eG16]; exact gup_self _ _ _
  refine lv_aload_n hx hb d_pt_init_19 rfl (lv_at hl 0 rfl) ?_
  refine lv_iconst (v := 0) hx hb d_pt_init_20 (by decide) ?_
  refine g_put S hE.1 hG f16 rfl in_pt ty_pt tyok_pt nm_pt 3 (by decide) tw_224 (fun _ h9 => h9) rfl (ty := .int) (by decide +kernel) rfl rfl (Nat.le_of_ble_eq_true rfl) d_pt_init_21 (fun H locs hG => ?_)
  have hG : gS (gA G s.heap.size) s.heap Z.1 cls (gup G16 h (.inr (3, [.int 0, .int 0, .int 0, .int 0, .int 0, .int 0]))) H locs := hG
  generalize eG21 : gup G16 h (.inr (3, [.int 0, .int 0, .int 0, .int 0, .int 0, .int 0])) = G21 at hG
  have f21 : G21 h = some (.inr (3, [.int 0, .int 0, .int 0, .int 0, .int 0, .int 0])) := by rw [← eG21]; exact gup_self _ _ _
  refine lv_aload_n hx hb d_pt_init_24 rfl (lv_at hl 0 rfl) ?_
  refine lv_iconst (v := (-1)) hx hb d_pt_init_25 (by decide) ?_
  refine g_put S hE.1 hG f21 rfl in_pt ty_pt tyok_pt nm_pt 4 (by decide) tw_226 (fun _ h9 => h9) rfl (ty := .int) (by decide +kernel) rfl rfl (Nat.le_of_ble_eq_true rfl) d_pt_init_26 (fun H locs hG => ?_)
  have hG : gS (gA G s.heap.size) s.heap Z.1 cls (gup G21 h (.inr (3, [.int 0, .int 0, .int 0, .int 0, .int (-1), .int 0]))) H locs := hG
  generalize eG26 : gup G21 h (.inr (3, [.int 0, .int 0, .int 0, .int 0, .int (-1), .int 0])) = G26 at hG
  have f26 : G26 h = some (.inr (3, [.int 0, .int 0, .int 0, .int 0, .int (-1), .int 0])) := by rw [← eG26]; exact gup_self _ _ _
  refine lv_aload_n hx hb d_pt_init_29 rfl (lv_at hl 0 rfl) ?_
  refine lv_iconst (v := 0) hx hb d_pt_init_30 (by decide) ?_
  refine g_put S hE.1 hG f26 rfl in_pt ty_pt tyok_pt nm_pt 5 (by decide) tw_228 (fun _ h9 => h9) rfl (ty := .boolean) (by decide +kernel) rfl rfl (Nat.le_of_ble_eq_true rfl) d_pt_init_31 (fun H locs hG => ?_)
  have hG : gS (gA G s.heap.size) s.heap Z.1 cls (gup G26 h (.inr (3, [.int 0, .int 0, .int 0, .int 0, .int (-1), .int 0]))) H locs := hG
  generalize eG31 : gup G26 h (.inr (3, [.int 0, .int 0, .int 0, .int 0, .int (-1), .int 0])) = G31 at hG
  have f31 : G31 h = some (.inr (3, [.int 0, .int 0, .int 0, .int 0, .int (-1), .int 0])) := by rw [← eG31]; exact gup_self _ _ _
  refine W.widen (k := 0) (n := 0) (Nat.le_of_ble_eq_true rfl) (Nat.le_of_ble_eq_true rfl) ?_
  exact (W.vret hx hb hr (fun t9 ht9 hW9 => ⟨⟨_, rfl, (by rw [← eG31, ← eG26, ← eG21, ← eG16, ← eG11, ← eG6]; simp only [gup_gup]), by rw [ht9]; exact hG.1, hG.2.1⟩, hG.2.2.1.F ht9⟩) hG.2.2.1.2.2 d_pt_init_34)

set_option maxHeartbeats 4000000 in
set_option maxRecDepth 100000 in
theorem c_pt_setCare (l : Launch) (Z : gZ) (G : gh) (sz : Nat) (h : Nat) {q : Pat} (hp : G h = some (.inr (3, pfs q))) (pl v : Int32) : Met l y_pt_setCare (wd_pt_setCare :: Gall) ({ frames := 1, cells := 0, slots := 0, locals := 21 }) (va_Pc [.ref h, .int pl, .int v] (gPw Z G sz)) (va_Qi (fun (r : Int32) (G9 : gh) => (carC (pca q) (pva q) pl = v ∧ r = 0 ∧ G9 = G) ∨ (¬ carC (pca q) (pva q) pl = v ∧ r = 1 ∧ G9 = gup G h (.inr (3, pfs (qcare q pl v))))) (gW Z G sz) (gA G sz)) 0 0 (gA G sz) := by
  refine Met.ofW (cc := b_pt_setCare) (maxL := 3) (ret := (some .boolean)) (by decide) rfl ?_
  intro p e s m args below meth c s₁ B hml hv
  obtain ⟨rfl, hsz, hG, hE⟩ := hv
  subst hsz
  have hx := B.exec
  have hb := B.bytes
  have hr := B.returns
  have hlocks := B.notSynchronized
  have S : CallFix p m c b_pt_setCare 3 s _ Gall "PackSeeds$Pattern" := ⟨hx, hb, hml, findClass_of_methodNamed B.named, fun w hw => atoms_spec (ws := wd_pt_setCare :: Gall) B.pre w (List.mem_cons_of_mem _ hw)⟩
  have hG : gS (gA G s.heap.size) s.heap Z.1 cls G s.heap [] := gS.start hG
  have hl := lv_entry ([.ref h, .int pl, .int v]) (n := 3) (Nat.le_of_ble_eq_true rfl)
  rw [lg_entry_eq]
  generalize (lg_sl ([.ref h, .int pl, .int v]) ++ List.replicate (3 - (lg_sl ([.ref h, .int pl, .int v])).length) Slot.unset).toArray = ls at hl ⊢
  have hl : lv_has ls 3 [(0, .ref h), (1, .int pl), (2, .int v)] := hl
  refine lv_aload_n hx hb d_pt_setCare_0 rfl (lv_at hl 0 rfl) ?_
  refine lv_iload_n hx hb d_pt_setCare_1 rfl (lv_at hl 1 rfl) ?_
  refine g_reti (g_runV (As := [.int pl]) (rest := []) S lk_pt_31 k_pt_careAt (c_pt_careAt l Z G h hp pl) ⟨rfl, rfl⟩ ⟨Nat.le_of_ble_eq_true rfl, Nat.le_of_ble_eq_true rfl⟩ (gPreV hG.1 hE hp rfl) rfl hl.1 rfl (Nat.le_of_ble_eq_true rfl) d_pt_setCare_2 ⟨Nat.le_of_ble_eq_true rfl, Nat.le_of_ble_eq_true rfl⟩) (fun r2 h2 => ?_)
  refine lv_iload_n hx hb d_pt_setCare_5 rfl (lv_at hl 2 rfl) ?_
  refine lv_icmp_ne (tgt := 11) hx hb d_pt_setCare_6 (by decide) (fun c6 => ?_) (fun c6 => ?_)
  · refine lv_aload_n hx hb d_pt_setCare_11 rfl (lv_at hl 0 rfl) ?_
    refine lv_iload_n hx hb d_pt_setCare_12 rfl (lv_at hl 2 rfl) ?_
    refine lv_iconst (v := (-1)) hx hb d_pt_setCare_13 (by decide) ?_
    refine lv_icmp_ne (tgt := 28) hx hb d_pt_setCare_14 (by decide) (fun c14 => ?_) (fun c14 => ?_)
    · refine lv_aload_n hx hb d_pt_setCare_28 rfl (lv_at hl 0 rfl) ?_
      refine g_get S hE.1 hG.1 hp rfl in_pt 0 (by decide) tw_218 (fun _ h9 => h9) rfl d_pt_setCare_29 ?_
      refine lv_iload_n hx hb d_pt_setCare_32 rfl (lv_at hl 1 rfl) ?_
      refine lv_ior hx hb d_pt_setCare_33 ?_
      refine g_put S hE.1 hG hp rfl in_pt ty_pt tyok_pt nm_pt 0 (by decide) tw_218 (fun _ h9 => h9) rfl (ty := .int) (by decide +kernel) rfl rfl (Nat.le_of_ble_eq_true rfl) d_pt_setCare_34 (fun H locs hG => ?_)
      have hG : gS (gA G s.heap.size) s.heap Z.1 cls (gup G h (.inr (3, [.int ((pca q) ||| pl), .int (pva q), .int (pmk q), .int (pfa q), .int (psd q), .int (pgn q)]))) H locs := hG
      generalize eG34 : gup G h (.inr (3, [.int ((pca q) ||| pl), .int (pva q), .int (pmk q), .int (pfa q), .int (psd q), .int (pgn q)])) = G34 at hG
      have f34 : G34 h = some (.inr (3, [.int ((pca q) ||| pl), .int (pva q), .int (pmk q), .int (pfa q), .int (psd q), .int (pgn q)])) := by rw [← eG34]; exact gup_self _ _ _
      refine lv_aload_n hx hb d_pt_setCare_37 rfl (lv_at hl 0 rfl) ?_
      refine lv_iload_n hx hb d_pt_setCare_38 rfl (lv_at hl 2 rfl) ?_
      refine lv_iconst (v := 1) hx hb d_pt_setCare_39 (by decide) ?_
      refine lv_icmp_ne (tgt := 52) hx hb d_pt_setCare_40 (by decide) (fun c40 => ?_) (fun c40 => ?_)
      · refine lv_aload_n hx hb d_pt_setCare_52 rfl (lv_at hl 0 rfl) ?_
        refine g_get S hE.1 hG.1 f34 rfl in_pt 1 (by decide) tw_220 (fun _ h9 => h9) rfl d_pt_setCare_53 ?_
        refine lv_iload_n hx hb d_pt_setCare_56 rfl (lv_at hl 1 rfl) ?_
        refine lv_iconst (v := (-1)) hx hb d_pt_setCare_57 (by decide) ?_
        refine lv_ixor hx hb d_pt_setCare_58 ?_
        refine lv_iand hx hb d_pt_setCare_59 ?_
        refine g_put S hE.1 hG f34 rfl in_pt ty_pt tyok_pt nm_pt 1 (by decide) tw_220 (fun _ h9 => h9) rfl (ty := .int) (by decide +kernel) rfl rfl (Nat.le_of_ble_eq_true rfl) d_pt_setCare_60 (fun H locs hG => ?_)
        have hG : gS (gA G s.heap.size) s.heap Z.1 cls (gup G34 h (.inr (3, [.int ((pca q) ||| pl), .int ((pva q) &&& (pl ^^^ (-1))), .int (pmk q), .int (pfa q), .int (psd q), .int (pgn q)]))) H locs := hG
        generalize eG60 : gup G34 h (.inr (3, [.int ((pca q) ||| pl), .int ((pva q) &&& (pl ^^^ (-1))), .int (pmk q), .int (pfa q), .int (psd q), .int (pgn q)])) = G60 at hG
        have f60 : G60 h = some (.inr (3, [.int ((pca q) ||| pl), .int ((pva q) &&& (pl ^^^ (-1))), .int (pmk q), .int (pfa q), .int (psd q), .int (pgn q)])) := by rw [← eG60]; exact gup_self _ _ _
        refine lv_aload_n hx hb d_pt_setCare_63 rfl (lv_at hl 0 rfl) ?_
        refine lv_iconst (v := (-1)) hx hb d_pt_setCare_64 (by decide) ?_
        refine g_put S hE.1 hG f60 rfl in_pt ty_pt tyok_pt nm_pt 4 (by decide) tw_226 (fun _ h9 => h9) rfl (ty := .int) (by decide +kernel) rfl rfl (Nat.le_of_ble_eq_true rfl) d_pt_setCare_65 (fun H locs hG => ?_)
        have hG : gS (gA G s.heap.size) s.heap Z.1 cls (gup G60 h (.inr (3, [.int ((pca q) ||| pl), .int ((pva q) &&& (pl ^^^ (-1))), .int (pmk q), .int (pfa q), .int (-1), .int (pgn q)]))) H locs := hG
        generalize eG65 : gup G60 h (.inr (3, [.int ((pca q) ||| pl), .int ((pva q) &&& (pl ^^^ (-1))), .int (pmk q), .int (pfa q), .int (-1), .int (pgn q)])) = G65 at hG
        have f65 : G65 h = some (.inr (3, [.int ((pca q) ||| pl), .int ((pva q) &&& (pl ^^^ (-1))), .int (pmk q), .int (pfa q), .int (-1), .int (pgn q)])) := by rw [← eG65]; exact gup_self _ _ _
        refine lv_iconst (v := 1) hx hb d_pt_setCare_68 (by decide) ?_
        refine W.widen (k := 0) (n := 0) (Nat.le_of_ble_eq_true rfl) (Nat.le_of_ble_eq_true rfl) ?_
        exact (W.zret hx hb hr rfl (fun t9 ht9 hW9 => ⟨⟨_, _, rfl, (Or.inr ⟨by rw [← h2]; exact c6, rfl, by first | (exfalso; rw [c14] at c40; exact absurd c40 (by decide)) | (rw [← eG65, ← eG60, ← eG34]; simp only [gup_gup]; simp [pfs, qcare, pca, pva, pmk, pfa, psd, pgn, *])⟩), by rw [ht9]; exact hG.1, hG.2.1⟩, hG.2.2.1.F ht9⟩) hG.2.2.1.2.2 d_pt_setCare_69)
      · refine lv_aload_n hx hb d_pt_setCare_43 rfl (lv_at hl 0 rfl) ?_
        refine g_get S hE.1 hG.1 f34 rfl in_pt 1 (by decide) tw_220 (fun _ h9 => h9) rfl d_pt_setCare_44 ?_
        refine lv_iload_n hx hb d_pt_setCare_47 rfl (lv_at hl 1 rfl) ?_
        refine lv_ior hx hb d_pt_setCare_48 ?_
        refine lv_goto (tgt := 60) hx hb d_pt_setCare_49 (by decide) ?_
        refine g_put S hE.1 hG f34 rfl in_pt ty_pt tyok_pt nm_pt 1 (by decide) tw_220 (fun _ h9 => h9) rfl (ty := .int) (by decide +kernel) rfl rfl (Nat.le_of_ble_eq_true rfl) d_pt_setCare_60 (fun H locs hG => ?_)
        have hG : gS (gA G s.heap.size) s.heap Z.1 cls (gup G34 h (.inr (3, [.int ((pca q) ||| pl), .int ((pva q) ||| pl), .int (pmk q), .int (pfa q), .int (psd q), .int (pgn q)]))) H locs := hG
        generalize eG60 : gup G34 h (.inr (3, [.int ((pca q) ||| pl), .int ((pva q) ||| pl), .int (pmk q), .int (pfa q), .int (psd q), .int (pgn q)])) = G60 at hG
        have f60 : G60 h = some (.inr (3, [.int ((pca q) ||| pl), .int ((pva q) ||| pl), .int (pmk q), .int (pfa q), .int (psd q), .int (pgn q)])) := by rw [← eG60]; exact gup_self _ _ _
        refine lv_aload_n hx hb d_pt_setCare_63 rfl (lv_at hl 0 rfl) ?_
        refine lv_iconst (v := (-1)) hx hb d_pt_setCare_64 (by decide) ?_
        refine g_put S hE.1 hG f60 rfl in_pt ty_pt tyok_pt nm_pt 4 (by decide) tw_226 (fun _ h9 => h9) rfl (ty := .int) (by decide +kernel) rfl rfl (Nat.le_of_ble_eq_true rfl) d_pt_setCare_65 (fun H locs hG => ?_)
        have hG : gS (gA G s.heap.size) s.heap Z.1 cls (gup G60 h (.inr (3, [.int ((pca q) ||| pl), .int ((pva q) ||| pl), .int (pmk q), .int (pfa q), .int (-1), .int (pgn q)]))) H locs := hG
        generalize eG65 : gup G60 h (.inr (3, [.int ((pca q) ||| pl), .int ((pva q) ||| pl), .int (pmk q), .int (pfa q), .int (-1), .int (pgn q)])) = G65 at hG
        have f65 : G65 h = some (.inr (3, [.int ((pca q) ||| pl), .int ((pva q) ||| pl), .int (pmk q), .int (pfa q), .int (-1), .int (pgn q)])) := by rw [← eG65]; exact gup_self _ _ _
        refine lv_iconst (v := 1) hx hb d_pt_setCare_68 (by decide) ?_
        refine W.widen (k := 0) (n := 0) (Nat.le_of_ble_eq_true rfl) (Nat.le_of_ble_eq_true rfl) ?_
        exact (W.zret hx hb hr rfl (fun t9 ht9 hW9 => ⟨⟨_, _, rfl, (Or.inr ⟨by rw [← h2]; exact c6, rfl, by first | (exfalso; rw [c14] at c40; exact absurd c40 (by decide)) | (rw [← eG65, ← eG60, ← eG34]; simp only [gup_gup]; simp [pfs, qcare, pca, pva, pmk, pfa, psd, pgn, *])⟩), by rw [ht9]; exact hG.1, hG.2.1⟩, hG.2.2.1.F ht9⟩) hG.2.2.1.2.2 d_pt_setCare_69)
    · refine lv_aload_n hx hb d_pt_setCare_17 rfl (lv_at hl 0 rfl) ?_
      refine g_get S hE.1 hG.1 hp rfl in_pt 0 (by decide) tw_218 (fun _ h9 => h9) rfl d_pt_setCare_18 ?_
      refine lv_iload_n hx hb d_pt_setCare_21 rfl (lv_at hl 1 rfl) ?_
      refine lv_iconst (v := (-1)) hx hb d_pt_setCare_22 (by decide) ?_
      refine lv_ixor hx hb d_pt_setCare_23 ?_
      refine lv_iand hx hb d_pt_setCare_24 ?_
      refine lv_goto (tgt := 34) hx hb d_pt_setCare_25 (by decide) ?_
      refine g_put S hE.1 hG hp rfl in_pt ty_pt tyok_pt nm_pt 0 (by decide) tw_218 (fun _ h9 => h9) rfl (ty := .int) (by decide +kernel) rfl rfl (Nat.le_of_ble_eq_true rfl) d_pt_setCare_34 (fun H locs hG => ?_)
      have hG : gS (gA G s.heap.size) s.heap Z.1 cls (gup G h (.inr (3, [.int ((pca q) &&& (pl ^^^ (-1))), .int (pva q), .int (pmk q), .int (pfa q), .int (psd q), .int (pgn q)]))) H locs := hG
      generalize eG34 : gup G h (.inr (3, [.int ((pca q) &&& (pl ^^^ (-1))), .int (pva q), .int (pmk q), .int (pfa q), .int (psd q), .int (pgn q)])) = G34 at hG
      have f34 : G34 h = some (.inr (3, [.int ((pca q) &&& (pl ^^^ (-1))), .int (pva q), .int (pmk q), .int (pfa q), .int (psd q), .int (pgn q)])) := by rw [← eG34]; exact gup_self _ _ _
      refine lv_aload_n hx hb d_pt_setCare_37 rfl (lv_at hl 0 rfl) ?_
      refine lv_iload_n hx hb d_pt_setCare_38 rfl (lv_at hl 2 rfl) ?_
      refine lv_iconst (v := 1) hx hb d_pt_setCare_39 (by decide) ?_
      refine lv_icmp_ne (tgt := 52) hx hb d_pt_setCare_40 (by decide) (fun c40 => ?_) (fun c40 => ?_)
      · refine lv_aload_n hx hb d_pt_setCare_52 rfl (lv_at hl 0 rfl) ?_
        refine g_get S hE.1 hG.1 f34 rfl in_pt 1 (by decide) tw_220 (fun _ h9 => h9) rfl d_pt_setCare_53 ?_
        refine lv_iload_n hx hb d_pt_setCare_56 rfl (lv_at hl 1 rfl) ?_
        refine lv_iconst (v := (-1)) hx hb d_pt_setCare_57 (by decide) ?_
        refine lv_ixor hx hb d_pt_setCare_58 ?_
        refine lv_iand hx hb d_pt_setCare_59 ?_
        refine g_put S hE.1 hG f34 rfl in_pt ty_pt tyok_pt nm_pt 1 (by decide) tw_220 (fun _ h9 => h9) rfl (ty := .int) (by decide +kernel) rfl rfl (Nat.le_of_ble_eq_true rfl) d_pt_setCare_60 (fun H locs hG => ?_)
        have hG : gS (gA G s.heap.size) s.heap Z.1 cls (gup G34 h (.inr (3, [.int ((pca q) &&& (pl ^^^ (-1))), .int ((pva q) &&& (pl ^^^ (-1))), .int (pmk q), .int (pfa q), .int (psd q), .int (pgn q)]))) H locs := hG
        generalize eG60 : gup G34 h (.inr (3, [.int ((pca q) &&& (pl ^^^ (-1))), .int ((pva q) &&& (pl ^^^ (-1))), .int (pmk q), .int (pfa q), .int (psd q), .int (pgn q)])) = G60 at hG
        have f60 : G60 h = some (.inr (3, [.int ((pca q) &&& (pl ^^^ (-1))), .int ((pva q) &&& (pl ^^^ (-1))), .int (pmk q), .int (pfa q), .int (psd q), .int (pgn q)])) := by rw [← eG60]; exact gup_self _ _ _
        refine lv_aload_n hx hb d_pt_setCare_63 rfl (lv_at hl 0 rfl) ?_
        refine lv_iconst (v := (-1)) hx hb d_pt_setCare_64 (by decide) ?_
        refine g_put S hE.1 hG f60 rfl in_pt ty_pt tyok_pt nm_pt 4 (by decide) tw_226 (fun _ h9 => h9) rfl (ty := .int) (by decide +kernel) rfl rfl (Nat.le_of_ble_eq_true rfl) d_pt_setCare_65 (fun H locs hG => ?_)
        have hG : gS (gA G s.heap.size) s.heap Z.1 cls (gup G60 h (.inr (3, [.int ((pca q) &&& (pl ^^^ (-1))), .int ((pva q) &&& (pl ^^^ (-1))), .int (pmk q), .int (pfa q), .int (-1), .int (pgn q)]))) H locs := hG
        generalize eG65 : gup G60 h (.inr (3, [.int ((pca q) &&& (pl ^^^ (-1))), .int ((pva q) &&& (pl ^^^ (-1))), .int (pmk q), .int (pfa q), .int (-1), .int (pgn q)])) = G65 at hG
        have f65 : G65 h = some (.inr (3, [.int ((pca q) &&& (pl ^^^ (-1))), .int ((pva q) &&& (pl ^^^ (-1))), .int (pmk q), .int (pfa q), .int (-1), .int (pgn q)])) := by rw [← eG65]; exact gup_self _ _ _
        refine lv_iconst (v := 1) hx hb d_pt_setCare_68 (by decide) ?_
        refine W.widen (k := 0) (n := 0) (Nat.le_of_ble_eq_true rfl) (Nat.le_of_ble_eq_true rfl) ?_
        exact (W.zret hx hb hr rfl (fun t9 ht9 hW9 => ⟨⟨_, _, rfl, (Or.inr ⟨by rw [← h2]; exact c6, rfl, by first | (exfalso; rw [c14] at c40; exact absurd c40 (by decide)) | (rw [← eG65, ← eG60, ← eG34]; simp only [gup_gup]; simp [pfs, qcare, pca, pva, pmk, pfa, psd, pgn, *])⟩), by rw [ht9]; exact hG.1, hG.2.1⟩, hG.2.2.1.F ht9⟩) hG.2.2.1.2.2 d_pt_setCare_69)
      · refine lv_aload_n hx hb d_pt_setCare_43 rfl (lv_at hl 0 rfl) ?_
        refine g_get S hE.1 hG.1 f34 rfl in_pt 1 (by decide) tw_220 (fun _ h9 => h9) rfl d_pt_setCare_44 ?_
        refine lv_iload_n hx hb d_pt_setCare_47 rfl (lv_at hl 1 rfl) ?_
        refine lv_ior hx hb d_pt_setCare_48 ?_
        refine lv_goto (tgt := 60) hx hb d_pt_setCare_49 (by decide) ?_
        refine g_put S hE.1 hG f34 rfl in_pt ty_pt tyok_pt nm_pt 1 (by decide) tw_220 (fun _ h9 => h9) rfl (ty := .int) (by decide +kernel) rfl rfl (Nat.le_of_ble_eq_true rfl) d_pt_setCare_60 (fun H locs hG => ?_)
        have hG : gS (gA G s.heap.size) s.heap Z.1 cls (gup G34 h (.inr (3, [.int ((pca q) &&& (pl ^^^ (-1))), .int ((pva q) ||| pl), .int (pmk q), .int (pfa q), .int (psd q), .int (pgn q)]))) H locs := hG
        generalize eG60 : gup G34 h (.inr (3, [.int ((pca q) &&& (pl ^^^ (-1))), .int ((pva q) ||| pl), .int (pmk q), .int (pfa q), .int (psd q), .int (pgn q)])) = G60 at hG
        have f60 : G60 h = some (.inr (3, [.int ((pca q) &&& (pl ^^^ (-1))), .int ((pva q) ||| pl), .int (pmk q), .int (pfa q), .int (psd q), .int (pgn q)])) := by rw [← eG60]; exact gup_self _ _ _
        refine lv_aload_n hx hb d_pt_setCare_63 rfl (lv_at hl 0 rfl) ?_
        refine lv_iconst (v := (-1)) hx hb d_pt_setCare_64 (by decide) ?_
        refine g_put S hE.1 hG f60 rfl in_pt ty_pt tyok_pt nm_pt 4 (by decide) tw_226 (fun _ h9 => h9) rfl (ty := .int) (by decide +kernel) rfl rfl (Nat.le_of_ble_eq_true rfl) d_pt_setCare_65 (fun H locs hG => ?_)
        have hG : gS (gA G s.heap.size) s.heap Z.1 cls (gup G60 h (.inr (3, [.int ((pca q) &&& (pl ^^^ (-1))), .int ((pva q) ||| pl), .int (pmk q), .int (pfa q), .int (-1), .int (pgn q)]))) H locs := hG
        generalize eG65 : gup G60 h (.inr (3, [.int ((pca q) &&& (pl ^^^ (-1))), .int ((pva q) ||| pl), .int (pmk q), .int (pfa q), .int (-1), .int (pgn q)])) = G65 at hG
        have f65 : G65 h = some (.inr (3, [.int ((pca q) &&& (pl ^^^ (-1))), .int ((pva q) ||| pl), .int (pmk q), .int (pfa q), .int (-1), .int (pgn q)])) := by rw [← eG65]; exact gup_self _ _ _
        refine lv_iconst (v := 1) hx hb d_pt_setCare_68 (by decide) ?_
        refine W.widen (k := 0) (n := 0) (Nat.le_of_ble_eq_true rfl) (Nat.le_of_ble_eq_true rfl) ?_
        exact (W.zret hx hb hr rfl (fun t9 ht9 hW9 => ⟨⟨_, _, rfl, (Or.inr ⟨by rw [← h2]; exact c6, rfl, by first | (exfalso; rw [c14] at c40; exact absurd c40 (by decide)) | (rw [← eG65, ← eG60, ← eG34]; simp only [gup_gup]; simp [pfs, qcare, pca, pva, pmk, pfa, psd, pgn, *])⟩), by rw [ht9]; exact hG.1, hG.2.1⟩, hG.2.2.1.F ht9⟩) hG.2.2.1.2.2 d_pt_setCare_69)
  · refine lv_iconst (v := 0) hx hb d_pt_setCare_9 (by decide) ?_
    refine W.widen (k := 0) (n := 0) (Nat.le_of_ble_eq_true rfl) (Nat.le_of_ble_eq_true rfl) ?_
    exact (W.zret hx hb hr rfl (fun t9 ht9 hW9 => ⟨⟨_, _, rfl, (Or.inl ⟨by rw [← h2]; exact c6, rfl, rfl⟩), by rw [ht9]; exact hG.1, hG.2.1⟩, hG.2.2.1.F ht9⟩) hG.2.2.1.2.2 d_pt_setCare_10)

set_option maxHeartbeats 4000000 in
set_option maxRecDepth 100000 in
theorem c_pt_take (l : Launch) (Z : gZ) (G : gh) (sz : Nat) (h : Nat) {q : Pat} (hp : G h = some (.inr (3, pfs q))) (h2 : Nat) {o : Pat} (hp2 : G h2 = some (.inr (3, pfs o))) (hne : h ≠ h2) : Met l y_pt_take (wd_pt_take :: Gall) ({ frames := 0, cells := 0, slots := 0, locals := 0 }) (va_Pc [.ref h, .ref h2] (gPw Z G sz)) (va_Qv (fun (G9 : gh) => G9 = gup (gup G h (.inr (3, pfs (qtake q o)))) h2 (.inr (3, pfs (qgn o 1)))) (gW Z G sz) (gA G sz)) 0 0 (gA G sz) := by
  refine Met.ofW (cc := b_pt_take) (maxL := 2) (ret := none) (by decide) rfl ?_
  intro p e s m args below meth c s₁ B hml hv
  obtain ⟨rfl, hsz, hG, hE⟩ := hv
  subst hsz
  have hx := B.exec
  have hb := B.bytes
  have hr := B.returns
  have hlocks := B.notSynchronized
  have S : CallFix p m c b_pt_take 2 s _ Gall "PackSeeds$Pattern" := ⟨hx, hb, hml, findClass_of_methodNamed B.named, fun w hw => atoms_spec (ws := wd_pt_take :: Gall) B.pre w (List.mem_cons_of_mem _ hw)⟩
  have hG : gS (gA G s.heap.size) s.heap Z.1 cls G s.heap [] := gS.start hG
  have hl := lv_entry ([.ref h, .ref h2]) (n := 2) (Nat.le_of_ble_eq_true rfl)
  rw [lg_entry_eq]
  generalize (lg_sl ([.ref h, .ref h2]) ++ List.replicate (2 - (lg_sl ([.ref h, .ref h2])).length) Slot.unset).toArray = ls at hl ⊢
  have hl : lv_has ls 2 [(0, .ref h), (1, .ref h2)] := hl
  refine lv_aload_n hx hb d_pt_take_0 rfl (lv_at hl 0 rfl) ?_
  refine lv_dup hx hb d_pt_take_1 rfl ?_
  refine g_get S hE.1 hG.1 hp rfl in_pt 0 (by decide) tw_218 (fun _ h9 => h9) rfl d_pt_take_2 ?_
  refine lv_aload_n hx hb d_pt_take_5 rfl (lv_at hl 1 rfl) ?_
  refine g_get S hE.1 hG.1 hp2 rfl in_pt 0 (by decide) tw_218 (fun _ h9 => h9) rfl d_pt_take_6 ?_
  refine lv_ior hx hb d_pt_take_9 ?_
  refine g_put S hE.1 hG hp rfl in_pt ty_pt tyok_pt nm_pt 0 (by decide) tw_218 (fun _ h9 => h9) rfl (ty := .int) (by decide +kernel) rfl rfl (Nat.le_of_ble_eq_true rfl) d_pt_take_10 (fun H locs hG => ?_)
  have hG : gS (gA G s.heap.size) s.heap Z.1 cls (gup G h (.inr (3, [.int ((pca q) ||| (pca o)), .int (pva q), .int (pmk q), .int (pfa q), .int (psd q), .int (pgn q)]))) H locs := hG
  generalize eG10 : gup G h (.inr (3, [.int ((pca q) ||| (pca o)), .int (pva q), .int (pmk q), .int (pfa q), .int (psd q), .int (pgn q)])) = G10 at hG
  have f10_h2 : G10 h2 = some (.inr (3, [.int (pca o), .int (pva o), .int (pmk o), .int (pfa o), .int (psd o), .int (pgn o)])) := by rw [← eG10]; exact (gup_ne _ _ (Ne.symm hne)).trans hp2
  have f10 : G10 h = some (.inr (3, [.int ((pca q) ||| (pca o)), .int (pva q), .int (pmk q), .int (pfa q), .int (psd q), .int (pgn q)])) := by rw [← eG10]; exact gup_self _ _ _
  refine lv_aload_n hx hb d_pt_take_13 rfl (lv_at hl 0 rfl) ?_
  refine lv_dup hx hb d_pt_take_14 rfl ?_
  refine g_get S hE.1 hG.1 f10 rfl in_pt 1 (by decide) tw_220 (fun _ h9 => h9) rfl d_pt_take_15 ?_
  refine lv_aload_n hx hb d_pt_take_18 rfl (lv_at hl 1 rfl) ?_
  refine g_get S hE.1 hG.1 f10_h2 rfl in_pt 1 (by decide) tw_220 (fun _ h9 => h9) rfl d_pt_take_19 ?_
  refine lv_ior hx hb d_pt_take_22 ?_
  refine g_put S hE.1 hG f10 rfl in_pt ty_pt tyok_pt nm_pt 1 (by decide) tw_220 (fun _ h9 => h9) rfl (ty := .int) (by decide +kernel) rfl rfl (Nat.le_of_ble_eq_true rfl) d_pt_take_23 (fun H locs hG => ?_)
  have hG : gS (gA G s.heap.size) s.heap Z.1 cls (gup G10 h (.inr (3, [.int ((pca q) ||| (pca o)), .int ((pva q) ||| (pva o)), .int (pmk q), .int (pfa q), .int (psd q), .int (pgn q)]))) H locs := hG
  generalize eG23 : gup G10 h (.inr (3, [.int ((pca q) ||| (pca o)), .int ((pva q) ||| (pva o)), .int (pmk q), .int (pfa q), .int (psd q), .int (pgn q)])) = G23 at hG
  have f23_h2 : G23 h2 = some (.inr (3, [.int (pca o), .int (pva o), .int (pmk o), .int (pfa o), .int (psd o), .int (pgn o)])) := by rw [← eG23]; exact (gup_ne _ _ (Ne.symm hne)).trans f10_h2
  have f23 : G23 h = some (.inr (3, [.int ((pca q) ||| (pca o)), .int ((pva q) ||| (pva o)), .int (pmk q), .int (pfa q), .int (psd q), .int (pgn q)])) := by rw [← eG23]; exact gup_self _ _ _
  refine lv_aload_n hx hb d_pt_take_26 rfl (lv_at hl 0 rfl) ?_
  refine lv_dup hx hb d_pt_take_27 rfl ?_
  refine g_get S hE.1 hG.1 f23 rfl in_pt 2 (by decide) tw_222 (fun _ h9 => h9) rfl d_pt_take_28 ?_
  refine lv_aload_n hx hb d_pt_take_31 rfl (lv_at hl 1 rfl) ?_
  refine g_get S hE.1 hG.1 f23_h2 rfl in_pt 2 (by decide) tw_222 (fun _ h9 => h9) rfl d_pt_take_32 ?_
  refine lv_ior hx hb d_pt_take_35 ?_
  refine g_put S hE.1 hG f23 rfl in_pt ty_pt tyok_pt nm_pt 2 (by decide) tw_222 (fun _ h9 => h9) rfl (ty := .int) (by decide +kernel) rfl rfl (Nat.le_of_ble_eq_true rfl) d_pt_take_36 (fun H locs hG => ?_)
  have hG : gS (gA G s.heap.size) s.heap Z.1 cls (gup G23 h (.inr (3, [.int ((pca q) ||| (pca o)), .int ((pva q) ||| (pva o)), .int ((pmk q) ||| (pmk o)), .int (pfa q), .int (psd q), .int (pgn q)]))) H locs := hG
  generalize eG36 : gup G23 h (.inr (3, [.int ((pca q) ||| (pca o)), .int ((pva q) ||| (pva o)), .int ((pmk q) ||| (pmk o)), .int (pfa q), .int (psd q), .int (pgn q)])) = G36 at hG
  have f36_h2 : G36 h2 = some (.inr (3, [.int (pca o), .int (pva o), .int (pmk o), .int (pfa o), .int (psd o), .int (pgn o)])) := by rw [← eG36]; exact (gup_ne _ _ (Ne.symm hne)).trans f23_h2
  have f36 : G36 h = some (.inr (3, [.int ((pca q) ||| (pca o)), .int ((pva q) ||| (pva o)), .int ((pmk q) ||| (pmk o)), .int (pfa q), .int (psd q), .int (pgn q)])) := by rw [← eG36]; exact gup_self _ _ _
  refine lv_aload_n hx hb d_pt_take_39 rfl (lv_at hl 0 rfl) ?_
  refine lv_dup hx hb d_pt_take_40 rfl ?_
  refine g_get S hE.1 hG.1 f36 rfl in_pt 3 (by decide) tw_224 (fun _ h9 => h9) rfl d_pt_take_41 ?_
  refine lv_aload_n hx hb d_pt_take_44 rfl (lv_at hl 1 rfl) ?_
  refine g_get S hE.1 hG.1 f36_h2 rfl in_pt 3 (by decide) tw_224 (fun _ h9 => h9) rfl d_pt_take_45 ?_
  refine lv_ior hx hb d_pt_take_48 ?_
  refine g_put S hE.1 hG f36 rfl in_pt ty_pt tyok_pt nm_pt 3 (by decide) tw_224 (fun _ h9 => h9) rfl (ty := .int) (by decide +kernel) rfl rfl (Nat.le_of_ble_eq_true rfl) d_pt_take_49 (fun H locs hG => ?_)
  have hG : gS (gA G s.heap.size) s.heap Z.1 cls (gup G36 h (.inr (3, [.int ((pca q) ||| (pca o)), .int ((pva q) ||| (pva o)), .int ((pmk q) ||| (pmk o)), .int ((pfa q) ||| (pfa o)), .int (psd q), .int (pgn q)]))) H locs := hG
  generalize eG49 : gup G36 h (.inr (3, [.int ((pca q) ||| (pca o)), .int ((pva q) ||| (pva o)), .int ((pmk q) ||| (pmk o)), .int ((pfa q) ||| (pfa o)), .int (psd q), .int (pgn q)])) = G49 at hG
  have f49_h2 : G49 h2 = some (.inr (3, [.int (pca o), .int (pva o), .int (pmk o), .int (pfa o), .int (psd o), .int (pgn o)])) := by rw [← eG49]; exact (gup_ne _ _ (Ne.symm hne)).trans f36_h2
  have f49 : G49 h = some (.inr (3, [.int ((pca q) ||| (pca o)), .int ((pva q) ||| (pva o)), .int ((pmk q) ||| (pmk o)), .int ((pfa q) ||| (pfa o)), .int (psd q), .int (pgn q)])) := by rw [← eG49]; exact gup_self _ _ _
  refine lv_aload_n hx hb d_pt_take_52 rfl (lv_at hl 0 rfl) ?_
  refine lv_iconst (v := (-1)) hx hb d_pt_take_53 (by decide) ?_
  refine g_put S hE.1 hG f49 rfl in_pt ty_pt tyok_pt nm_pt 4 (by decide) tw_226 (fun _ h9 => h9) rfl (ty := .int) (by decide +kernel) rfl rfl (Nat.le_of_ble_eq_true rfl) d_pt_take_54 (fun H locs hG => ?_)
  have hG : gS (gA G s.heap.size) s.heap Z.1 cls (gup G49 h (.inr (3, [.int ((pca q) ||| (pca o)), .int ((pva q) ||| (pva o)), .int ((pmk q) ||| (pmk o)), .int ((pfa q) ||| (pfa o)), .int (-1), .int (pgn q)]))) H locs := hG
  generalize eG54 : gup G49 h (.inr (3, [.int ((pca q) ||| (pca o)), .int ((pva q) ||| (pva o)), .int ((pmk q) ||| (pmk o)), .int ((pfa q) ||| (pfa o)), .int (-1), .int (pgn q)])) = G54 at hG
  have f54_h2 : G54 h2 = some (.inr (3, [.int (pca o), .int (pva o), .int (pmk o), .int (pfa o), .int (psd o), .int (pgn o)])) := by rw [← eG54]; exact (gup_ne _ _ (Ne.symm hne)).trans f49_h2
  have f54 : G54 h = some (.inr (3, [.int ((pca q) ||| (pca o)), .int ((pva q) ||| (pva o)), .int ((pmk q) ||| (pmk o)), .int ((pfa q) ||| (pfa o)), .int (-1), .int (pgn q)])) := by rw [← eG54]; exact gup_self _ _ _
  refine lv_aload_n hx hb d_pt_take_57 rfl (lv_at hl 1 rfl) ?_
  refine lv_iconst (v := 1) hx hb d_pt_take_58 (by decide) ?_
  refine g_put S hE.1 hG f54_h2 rfl in_pt ty_pt tyok_pt nm_pt 5 (by decide) tw_228 (fun _ h9 => h9) rfl (ty := .boolean) (by decide +kernel) rfl rfl (Nat.le_of_ble_eq_true rfl) d_pt_take_59 (fun H locs hG => ?_)
  have hG : gS (gA G s.heap.size) s.heap Z.1 cls (gup G54 h2 (.inr (3, [.int (pca o), .int (pva o), .int (pmk o), .int (pfa o), .int (psd o), .int 1]))) H locs := hG
  generalize eG59 : gup G54 h2 (.inr (3, [.int (pca o), .int (pva o), .int (pmk o), .int (pfa o), .int (psd o), .int 1])) = G59 at hG
  have f59_h : G59 h = some (.inr (3, [.int ((pca q) ||| (pca o)), .int ((pva q) ||| (pva o)), .int ((pmk q) ||| (pmk o)), .int ((pfa q) ||| (pfa o)), .int (-1), .int (pgn q)])) := by rw [← eG59]; exact (gup_ne _ _ hne).trans f54
  have f59 : G59 h2 = some (.inr (3, [.int (pca o), .int (pva o), .int (pmk o), .int (pfa o), .int (psd o), .int 1])) := by rw [← eG59]; exact gup_self _ _ _
  refine W.widen (k := 0) (n := 0) (Nat.le_of_ble_eq_true rfl) (Nat.le_of_ble_eq_true rfl) ?_
  exact (W.vret hx hb hr (fun t9 ht9 hW9 => ⟨⟨_, rfl, (by rw [← eG59, ← eG54, ← eG49, ← eG36, ← eG23, ← eG10]; simp only [gup_gup]; rfl), by rw [ht9]; exact hG.1, hG.2.1⟩, hG.2.2.1.F ht9⟩) hG.2.2.1.2.2 d_pt_take_62)

set_option maxHeartbeats 4000000 in
set_option maxRecDepth 100000 in
theorem c_ma_restart (l : Launch) (Z : gZ) (G : gh) (sz : Nat) (h : Nat) {sh ro : Nat} {stg tp : Int32} (hm : G h = some (.inr (2, [.ref sh, .ref ro, .int stg, .int tp]))) (d : Int32) : Met l y_ma_restart (wd_ma_restart :: Gall) ({ frames := 0, cells := 0, slots := 0, locals := 0 }) (va_Pc [.ref h, .int d] (gPw Z G sz)) (va_Qv (fun (G9 : gh) => G9 = gup G h (.inr (2, [.ref sh, .ref ro, .int d, .int ((1 : Int32) <<< ((d - 1) &&& 31))]))) (gW Z G sz) (gA G sz)) 0 0 (gA G sz) := by
  refine Met.ofW (cc := b_ma_restart) (maxL := 2) (ret := none) (by decide) rfl ?_
  intro p e s m args below meth c s₁ B hml hv
  obtain ⟨rfl, hsz, hG, hE⟩ := hv
  subst hsz
  have hx := B.exec
  have hb := B.bytes
  have hr := B.returns
  have hlocks := B.notSynchronized
  have S : CallFix p m c b_ma_restart 2 s _ Gall "PackSeeds$Machine" := ⟨hx, hb, hml, findClass_of_methodNamed B.named, fun w hw => atoms_spec (ws := wd_ma_restart :: Gall) B.pre w (List.mem_cons_of_mem _ hw)⟩
  have hG : gS (gA G s.heap.size) s.heap Z.1 cls G s.heap [] := gS.start hG
  have hl := lv_entry ([.ref h, .int d]) (n := 2) (Nat.le_of_ble_eq_true rfl)
  rw [lg_entry_eq]
  generalize (lg_sl ([.ref h, .int d]) ++ List.replicate (2 - (lg_sl ([.ref h, .int d])).length) Slot.unset).toArray = ls at hl ⊢
  have hl : lv_has ls 2 [(0, .ref h), (1, .int d)] := hl
  refine lv_aload_n hx hb d_ma_restart_0 rfl (lv_at hl 0 rfl) ?_
  refine lv_iload_n hx hb d_ma_restart_1 rfl (lv_at hl 1 rfl) ?_
  refine g_put S hE.1 hG hm rfl in_ma ty_ma tyok_ma nm_ma 2 (by decide) tw_53 (fun _ h9 => h9) rfl (ty := .int) (by decide +kernel) rfl rfl (Nat.le_of_ble_eq_true rfl) d_ma_restart_2 (fun H locs hG => ?_)
  have hG : gS (gA G s.heap.size) s.heap Z.1 cls (gup G h (.inr (2, [.ref sh, .ref ro, .int d, .int tp]))) H locs := hG
  generalize eG2 : gup G h (.inr (2, [.ref sh, .ref ro, .int d, .int tp])) = G2 at hG
  have f2 : G2 h = some (.inr (2, [.ref sh, .ref ro, .int d, .int tp])) := by rw [← eG2]; exact gup_self _ _ _
  refine lv_aload_n hx hb d_ma_restart_5 rfl (lv_at hl 0 rfl) ?_
  refine lv_iconst (v := 1) hx hb d_ma_restart_6 (by decide) ?_
  refine lv_iload_n hx hb d_ma_restart_7 rfl (lv_at hl 1 rfl) ?_
  refine lv_iconst (v := 1) hx hb d_ma_restart_8 (by decide) ?_
  refine lv_isub hx hb d_ma_restart_9 ?_
  refine lv_ishl hx hb d_ma_restart_10 ?_
  refine g_put S hE.1 hG f2 rfl in_ma ty_ma tyok_ma nm_ma 3 (by decide) tw_55 (fun _ h9 => h9) rfl (ty := .int) (by decide +kernel) rfl rfl (Nat.le_of_ble_eq_true rfl) d_ma_restart_11 (fun H locs hG => ?_)
  have hG : gS (gA G s.heap.size) s.heap Z.1 cls (gup G2 h (.inr (2, [.ref sh, .ref ro, .int d, .int (1 <<< ((d - 1) &&& 31))]))) H locs := hG
  generalize eG11 : gup G2 h (.inr (2, [.ref sh, .ref ro, .int d, .int (1 <<< ((d - 1) &&& 31))])) = G11 at hG
  have f11 : G11 h = some (.inr (2, [.ref sh, .ref ro, .int d, .int (1 <<< ((d - 1) &&& 31))])) := by rw [← eG11]; exact gup_self _ _ _
  refine W.widen (k := 0) (n := 0) (Nat.le_of_ble_eq_true rfl) (Nat.le_of_ble_eq_true rfl) ?_
  exact (W.vret hx hb hr (fun t9 ht9 hW9 => ⟨⟨_, rfl, (by rw [← eG11, ← eG2]; simp only [gup_gup]), by rw [ht9]; exact hG.1, hG.2.1⟩, hG.2.2.1.F ht9⟩) hG.2.2.1.2.2 d_ma_restart_14)

set_option maxHeartbeats 4000000 in
set_option maxRecDepth 100000 in
theorem c_ma_turnTap (l : Launch) (Z : gZ) (G : gh) (sz : Nat) (h : Nat) {sh ro : Nat} {stg tp : Int32} (hm : G h = some (.inr (2, [.ref sh, .ref ro, .int stg, .int tp]))) (d : Int32) : Met l y_ma_turnTap (wd_ma_turnTap :: Gall) ({ frames := 0, cells := 0, slots := 0, locals := 0 }) (va_Pc [.ref h, .int d] (gPw Z G sz)) (va_Qv (fun (G9 : gh) => G9 = gup G h (.inr (2, [.ref sh, .ref ro, .int stg, .int (tp ^^^ ((1 : Int32) <<< (d &&& 31)))]))) (gW Z G sz) (gA G sz)) 0 0 (gA G sz) := by
  refine Met.ofW (cc := b_ma_turnTap) (maxL := 2) (ret := none) (by decide) rfl ?_
  intro p e s m args below meth c s₁ B hml hv
  obtain ⟨rfl, hsz, hG, hE⟩ := hv
  subst hsz
  have hx := B.exec
  have hb := B.bytes
  have hr := B.returns
  have hlocks := B.notSynchronized
  have S : CallFix p m c b_ma_turnTap 2 s _ Gall "PackSeeds$Machine" := ⟨hx, hb, hml, findClass_of_methodNamed B.named, fun w hw => atoms_spec (ws := wd_ma_turnTap :: Gall) B.pre w (List.mem_cons_of_mem _ hw)⟩
  have hG : gS (gA G s.heap.size) s.heap Z.1 cls G s.heap [] := gS.start hG
  have hl := lv_entry ([.ref h, .int d]) (n := 2) (Nat.le_of_ble_eq_true rfl)
  rw [lg_entry_eq]
  generalize (lg_sl ([.ref h, .int d]) ++ List.replicate (2 - (lg_sl ([.ref h, .int d])).length) Slot.unset).toArray = ls at hl ⊢
  have hl : lv_has ls 2 [(0, .ref h), (1, .int d)] := hl
  refine lv_aload_n hx hb d_ma_turnTap_0 rfl (lv_at hl 0 rfl) ?_
  refine lv_dup hx hb d_ma_turnTap_1 rfl ?_
  refine g_get S hE.1 hG.1 hm rfl in_ma 3 (by decide) tw_55 (fun _ h9 => h9) rfl d_ma_turnTap_2 ?_
  refine lv_iconst (v := 1) hx hb d_ma_turnTap_5 (by decide) ?_
  refine lv_iload_n hx hb d_ma_turnTap_6 rfl (lv_at hl 1 rfl) ?_
  refine lv_ishl hx hb d_ma_turnTap_7 ?_
  refine lv_ixor hx hb d_ma_turnTap_8 ?_
  refine g_put S hE.1 hG hm rfl in_ma ty_ma tyok_ma nm_ma 3 (by decide) tw_55 (fun _ h9 => h9) rfl (ty := .int) (by decide +kernel) rfl rfl (Nat.le_of_ble_eq_true rfl) d_ma_turnTap_9 (fun H locs hG => ?_)
  have hG : gS (gA G s.heap.size) s.heap Z.1 cls (gup G h (.inr (2, [.ref sh, .ref ro, .int stg, .int (tp ^^^ (1 <<< (d &&& 31)))]))) H locs := hG
  generalize eG9 : gup G h (.inr (2, [.ref sh, .ref ro, .int stg, .int (tp ^^^ (1 <<< (d &&& 31)))])) = G9 at hG
  have f9 : G9 h = some (.inr (2, [.ref sh, .ref ro, .int stg, .int (tp ^^^ (1 <<< (d &&& 31)))])) := by rw [← eG9]; exact gup_self _ _ _
  refine W.widen (k := 0) (n := 0) (Nat.le_of_ble_eq_true rfl) (Nat.le_of_ble_eq_true rfl) ?_
  exact (W.vret hx hb hr (fun t9 ht9 hW9 => ⟨⟨_, rfl, (by rw [← eG9]), by rw [ht9]; exact hG.1, hG.2.1⟩, hG.2.2.1.F ht9⟩) hG.2.2.1.2.2 d_ma_turnTap_12)

set_option maxHeartbeats 4000000 in
set_option maxRecDepth 100000 in
theorem c_ma_keep (l : Launch) (Z : gZ) (G : gh) (sz : Nat) (h : Nat) {sh ro : Nat} {stg tp : Int32} (hm : G h = some (.inr (2, [.ref sh, .ref ro, .int stg, .int tp]))) {rw : Nat → Int64} (hro : G ro = some (.inl (Z.2 0, 48, .inr (.inl rw)))) (row : Int64) : Met l y_ma_keep (wd_ma_keep :: Gall) ({ frames := 0, cells := 0, slots := 0, locals := 0 }) (va_Pc [.ref h, .long row] (gPw Z G sz)) (va_Qv (fun (G9 : gh) => G9 = gup G ro (.inl (Z.2 0, 48, .inr (.inl (keepC row rw 32))))) (gW Z G sz) (gA G sz)) 0 0 (gA G sz) := by
  refine Met.ofW (cc := b_ma_keep) (maxL := 4) (ret := none) (by decide) rfl ?_
  intro p e s m args below meth c s₁ B hml hv
  obtain ⟨rfl, hsz, hG, hE⟩ := hv
  subst hsz
  have hx := B.exec
  have hb := B.bytes
  have hr := B.returns
  have hlocks := B.notSynchronized
  have S : CallFix p m c b_ma_keep 4 s _ Gall "PackSeeds$Machine" := ⟨hx, hb, hml, findClass_of_methodNamed B.named, fun w hw => atoms_spec (ws := wd_ma_keep :: Gall) B.pre w (List.mem_cons_of_mem _ hw)⟩
  have hG : gS (gA G s.heap.size) s.heap Z.1 cls G s.heap [] := gS.start hG
  have hl := lv_entry ([.ref h, .long row]) (n := 4) (Nat.le_of_ble_eq_true rfl)
  rw [lg_entry_eq]
  generalize (lg_sl ([.ref h, .long row]) ++ List.replicate (4 - (lg_sl ([.ref h, .long row])).length) Slot.unset).toArray = ls at hl ⊢
  have hl : lv_has ls 4 [(0, .ref h), (1, .long row)] := hl
  refine lv_aload_n hx hb d_ma_keep_0 rfl (lv_at hl 0 rfl) ?_
  refine g_get S hE.1 hG.1 hm rfl in_ma 1 (by decide) tw_52 (fun _ h9 => h9) rfl d_ma_keep_1 ?_
  refine g_alen S hE.1 hG.1 hro 0 rfl (v := nI 48) rfl d_ma_keep_4 ?_
  refine lv_iconst (v := 1) hx hb d_ma_keep_5 (by decide) ?_
  refine lv_isub hx hb d_ma_keep_6 ?_
  refine g_topi (y := nI (32 + 15)) rfl ?_
  refine lv_istore_n (lv' := [(3, .int (nI (32 + 15))), (0, .ref h), (1, .long row)]) hx hb d_ma_keep_7 rfl hl (by decide) rfl (fun ls hl => ?_)
  refine g_ind (V := Nat) (fun k ls => (k ≤ 32 ∧ keepC row rw 32 = keepC row rw k) ∧ lv_has ls 4 [(0, .ref h), (1, .long row), (3, .int (nI (k + 15)))]) (fun k => k) ?_ 32 _ ⟨⟨Nat.le_refl _, rfl⟩, lv_sub hl [1, 2, 0] rfl⟩
  intro v ls hI ih8
  obtain ⟨k, hvv⟩ : ∃ y, y = v := ⟨_, rfl⟩
  subst hvv
  obtain ⟨⟨hk, hv⟩, hl⟩ := hI
  refine lv_iload_n hx hb d_ma_keep_8 rfl (lv_at hl 2 rfl) ?_
  refine lv_bipush (v := nI 16) hx hb d_ma_keep_9 (by decide) ?_
  refine g_lt (tgt := 38) hx hb d_ma_keep_11 (by decide) (by omega) (by omega) (fun c11 => ?_) (fun c11 => ?_)
  · refine W.widen (k := 0) (n := 0) (Nat.le_of_ble_eq_true rfl) (Nat.le_of_ble_eq_true rfl) ?_
    exact (W.vret hx hb hr (fun t9 ht9 hW9 => ⟨⟨_, rfl, (by rw [hv, show k = 0 by omega]; exact (gup_same hro).symm), by rw [ht9]; exact hG.1, hG.2.1⟩, hG.2.2.1.F ht9⟩) hG.2.2.1.2.2 d_ma_keep_38)
  · obtain ⟨k1, rfl⟩ : ∃ k1, k = k1 + 1 := ⟨k - 1, by omega⟩
    refine lv_lload_n hx hb d_ma_keep_14 rfl (lv_at hl 1 rfl) ?_
    refine lv_iload_n hx hb d_ma_keep_15 rfl (lv_at hl 2 rfl) ?_
    refine lv_lshr hx hb d_ma_keep_16 rfl ?_
    refine lv_lconst (v := 1) hx hb d_ma_keep_17 (by decide) ?_
    refine lv_land hx hb d_ma_keep_18 ?_
    refine lv_lconst (v := 0) hx hb d_ma_keep_19 (by decide) ?_
    refine W.lcmp hx hb d_ma_keep_20 ?_
    refine lv_if_eq (tgt := 32) hx hb d_ma_keep_21 (by decide) (fun c21 => ?_) (fun c21 => ?_)
    · refine lv_iinc (v := nI (k1 + 15)) (lv' := [(3, .int (nI (k1 + 15))), (0, .ref h), (1, .long row)]) hx hb d_ma_keep_32 hl (k := 2) rfl (show nI (k1 + 1 + 15) + (-1) = nI (k1 + 15) from pk_m1 (k1 + 15)) (by decide) rfl (fun ls hl => ?_)
      refine lv_goto (tgt := 8) hx hb d_ma_keep_35 (by decide) ?_
      exact ih8 k1 _ ⟨⟨by omega, by
          have e9 : lbit row (k1 + 16) = 0 := (lg_cmp_eq _ _).mp c21
          rw [hv, keepC, if_pos e9]⟩, lv_sub hl [1, 2, 0] rfl⟩ (by first | omega | (simp only []; omega))
    · refine lv_aload_n hx hb d_ma_keep_24 rfl (lv_at hl 0 rfl) ?_
      refine g_get S hE.1 hG.1 hm rfl in_ma 1 (by decide) tw_52 (fun _ h9 => h9) rfl d_ma_keep_25 ?_
      refine lv_iload_n hx hb d_ma_keep_28 rfl (lv_at hl 2 rfl) ?_
      refine lv_lload_n hx hb d_ma_keep_29 rfl (lv_at hl 1 rfl) ?_
      refine g_last S hE.1 hG hro 0 rfl (vp_in_nI (by omega) (by omega)) d_ma_keep_30 (fun H locs hG => ?_)
      rw [nI_clamp (show (k1 + 1 + 15) < 2 ^ 31 by omega)] at hG
      have hG : gS (gA G s.heap.size) s.heap Z.1 cls (gup G ro (.inl (Z.2 0, 48, .inr (.inl (vp_updL rw (k1 + 1 + 15) row))))) H locs := hG
      generalize eG30 : gup G ro (.inl (Z.2 0, 48, .inr (.inl (vp_updL rw (k1 + 1 + 15) row)))) = G30 at hG
      have f30_h : G30 h = some (.inr (2, [.ref sh, .ref ro, .int stg, .int tp])) := by rw [← eG30]; exact gup_keep hro hm (by simp)
      have f30 : G30 ro = some (.inl (Z.2 0, 48, .inr (.inl (vp_updL rw (k1 + 1 + 15) row)))) := by rw [← eG30]; exact gup_self _ _ _
      refine W.widen (k := 0) (n := 0) (Nat.le_of_ble_eq_true rfl) (Nat.le_of_ble_eq_true rfl) ?_
      exact (W.vret hx hb hr (fun t9 ht9 hW9 => ⟨⟨_, rfl, (by
          have e9 : ¬ lbit row (k1 + 16) = 0 := fun z => c21 ((lg_cmp_eq _ _).mpr z)
          rw [hv, keepC, if_neg e9, ← eG30]), by rw [ht9]; exact hG.1, hG.2.1⟩, hG.2.2.1.F ht9⟩) hG.2.2.1.2.2 d_ma_keep_31)
end
section
def lsR (stg tp : Int32) (C E : Nat) (ca : Int32) (n : Nat) : Nat → Int64 := itr (fun t f => keepC (redC f 32 (rowC (makeC stg tp C E ((1 : Int32) <<< (nI t &&& 31)) &&& ca) ((1 : Int32) <<< (nI t &&& 31)))) f 32) (fun _ => 0) n
def lsC (stg tp : Int32) (C E D : Nat) (ca va : Int32) : Int32 := if celC (redC (lsR stg tp C E ca D) 32 (rowC va 0)) = 0 then (redC (lsR stg tp C E ca D) 32 (rowC va 0)).toInt32 else -1
def fgN (pt : Nat → Option Nat) (pd : Nat → Pat) (n : Nat) : Nat → Pat := itr (fun i Q => if (prN pt Q i).isSome then va_up Q i (qsd (Q i) (-1)) else Q) pd n
def drS (pt : Nat → Option Nat) : Nat → (Nat → Pat) → (Nat → Pat)
  | 0, P => P
  | k + 1, P => drS pt k (if (prN pt P k).isSome ∧ pfa (P k) &&& (orF pt P (nI k) 24 ^^^ (-1)) = 0 then va_up P k (qgn (P k) 1) else P)
def tkS (pt : Nat → Option Nat) (i k : Nat) (Q : Nat → Pat) : Nat → Pat := if (prN pt Q k).isSome ∧ ¬ gowC (pca (Q i)) (pva (Q i)) (pca (Q k)) (pva (Q k)) = 0 then va_up (va_up Q i (qtake (Q i) (Q k))) k (qgn (Q k) 1) else Q
def tkB (pt : Nat → Option Nat) (i : Nat) (pd : Nat → Pat) (n : Nat) : Nat → Pat := itr (fun m Q => tkS pt i (i + 1 + m) Q) pd n
def joinD (pt : Nat → Option Nat) (pd : Nat → Pat) (n : Nat) : Nat → Pat := itr (fun i Q => if (prN pt Q i).isSome then tkB pt i Q (23 - i) else Q) pd n
end
section
set_option maxHeartbeats 4000000 in
set_option maxRecDepth 100000 in
theorem c_ma_leastSeed (l : Launch) (Z : gZ) (G : gh) (sz : Nat) (h : Nat) {sh ro D : Nat} {tp : Int32} (hm : G h = some (.inr (2, [.ref sh, .ref ro, .int (nI D), .int tp]))) {rw : Nat → Int64} (hro : G ro = some (.inl (Z.2 0, 48, .inr (.inl rw)))) {C E : Nat} (hs : G sh = some (.inr (1, [.int (nI C), .int (nI E)]))) (hC : C ≤ 4) (hE8 : E ≤ 8) (hD : D ≤ 16) (ca va : Int32) : Met l y_ma_leastSeed (wd_ma_leastSeed :: Gall) ({ frames := 3, cells := 0, slots := 0, locals := 67 }) (va_Pc [.ref h, .int ca, .int va] (gPw Z G sz)) (va_Qi (fun (r : Int32) (G9 : gh) => ∃ f : Nat → Int64, G9 = gup G ro (.inl (Z.2 0, 48, .inr (.inl f))) ∧ r = lsC (nI D) tp C E D ca va) (gW Z G sz) (gA G sz)) 0 0 (gA G sz) := by
  refine Met.ofW (cc := b_ma_leastSeed) (maxL := 5) (ret := (some .int)) (by decide) rfl ?_
  intro p e s m args below meth c s₁ B hml hv
  obtain ⟨rfl, hsz, hG, hE⟩ := hv
  subst hsz
  have hx := B.exec
  have hb := B.bytes
  have hr := B.returns
  have hlocks := B.notSynchronized
  have S : CallFix p m c b_ma_leastSeed 5 s _ Gall "PackSeeds$Machine" := ⟨hx, hb, hml, findClass_of_methodNamed B.named, fun w hw => atoms_spec (ws := wd_ma_leastSeed :: Gall) B.pre w (List.mem_cons_of_mem _ hw)⟩
  have hG : gS (gA G s.heap.size) s.heap Z.1 cls G s.heap [] := gS.start hG
  have hl := lv_entry ([.ref h, .int ca, .int va]) (n := 5) (Nat.le_of_ble_eq_true rfl)
  rw [lg_entry_eq]
  generalize (lg_sl ([.ref h, .int ca, .int va]) ++ List.replicate (5 - (lg_sl ([.ref h, .int ca, .int va])).length) Slot.unset).toArray = ls at hl ⊢
  have hl : lv_has ls 5 [(0, .ref h), (1, .int ca), (2, .int va)] := hl
  refine lv_iconst (v := nI 0) hx hb d_ma_leastSeed_0 (by decide) ?_
  refine lv_istore_n (lv' := [(3, .int (nI 0)), (0, .ref h), (1, .int ca), (2, .int va)]) hx hb d_ma_leastSeed_1 rfl hl (by decide) rfl (fun ls hl => ?_)
  refine g_indH (V := Nat × (Nat → Int64) × gh) (fun (i, f, Gx) H locs ls => (i ≤ 48 ∧ (∀ j, j < i → f j = 0) ∧ Gx = gup G ro (.inl (Z.2 0, 48, .inr (.inl f)))) ∧ gS (gA G s.heap.size) s.heap Z.1 cls Gx H locs ∧ lv_has ls 5 [(0, .ref h), (1, .int ca), (2, .int va), (3, .int (nI i))]) (fun (i, f, Gx) => 48 - i) ?_ (0, rw, G) _ ⟨⟨Nat.zero_le _, fun j hj => absurd hj (by omega), (gup_same hro).symm⟩, hG, lv_sub hl [1, 2, 3, 0] rfl⟩
  intro v H locs ls hI ih2
  obtain ⟨i, f, Gx⟩ := v
  obtain ⟨⟨hi, hf, hGx⟩, hG, hl⟩ := hI
  have hm1 : Gx h = some (.inr (2, [.ref sh, .ref ro, .int (nI D), .int tp])) := by rw [hGx]; exact gup_keep hro hm (by simp)
  have hro1 : Gx ro = some (.inl (Z.2 0, 48, .inr (.inl f))) := by rw [hGx]; exact gup_self _ _ _
  have hs1 : Gx sh = some (.inr (1, [.int (nI C), .int (nI E)])) := by rw [hGx]; exact gup_keep hro hs (by simp)
  refine lv_iload_n hx hb d_ma_leastSeed_2 rfl (lv_at hl 3 rfl) ?_
  refine lv_aload_n hx hb d_ma_leastSeed_3 rfl (lv_at hl 0 rfl) ?_
  refine g_get S hE.1 hG.1 hm1 rfl in_ma 1 (by decide) tw_52 (fun _ h9 => h9) rfl d_ma_leastSeed_4 ?_
  refine g_alen S hE.1 hG.1 hro1 0 rfl (v := nI 48) rfl d_ma_leastSeed_7 ?_
  refine g_ge (tgt := 24) hx hb d_ma_leastSeed_8 (by decide) (by omega) (by omega) (fun c8 => ?_) (fun c8 => ?_)
  · rw [hGx] at hG
    have hG := hG.lcongr (g := fun _ => 0) (fun j hj => hf j (by omega))
    obtain ⟨Gz, hGz⟩ : ∃ Gz : gh, Gz = gup G ro (.inl (Z.2 0, 48, .inr (.inl (fun _ => 0)))) := ⟨_, rfl⟩
    rw [← hGz] at hG
    have hm2 : Gz h = some (.inr (2, [.ref sh, .ref ro, .int (nI D), .int tp])) := by rw [hGz]; exact gup_keep hro hm (by simp)
    have hro2 : Gz ro = some (.inl (Z.2 0, 48, .inr (.inl (fun _ => 0)))) := by rw [hGz]; exact gup_self _ _ _
    have hs2 : Gz sh = some (.inr (1, [.int (nI C), .int (nI E)])) := by rw [hGz]; exact gup_keep hro hs (by simp)
    refine lv_iconst (v := nI 0) hx hb d_ma_leastSeed_24 (by decide) ?_
    refine lv_istore_n (lv' := [(3, .int (nI 0)), (0, .ref h), (1, .int ca), (2, .int va)]) hx hb d_ma_leastSeed_25 rfl hl (by decide) rfl (fun ls hl => ?_)
    refine g_indH (V := Nat × (Nat → Int64) × gh) (fun (t, f2, Gy) H locs ls => (t ≤ D ∧ f2 = lsR (nI D) tp C E ca t ∧ Gy = gup G ro (.inl (Z.2 0, 48, .inr (.inl f2)))) ∧ gS (gA G s.heap.size) s.heap Z.1 cls Gy H locs ∧ lv_has ls 5 [(0, .ref h), (1, .int ca), (2, .int va), (3, .int (nI t))]) (fun (t, f2, Gy) => D - t) ?_ (0, (fun _ => 0), Gz) _ ⟨⟨Nat.zero_le _, rfl, hGz⟩, hG, lv_sub hl [1, 2, 3, 0] rfl⟩
    intro v H locs ls hI ih26
    obtain ⟨t, f2, Gy⟩ := v
    obtain ⟨⟨ht, hf2, hGy⟩, hG, hl⟩ := hI
    have hm3 : Gy h = some (.inr (2, [.ref sh, .ref ro, .int (nI D), .int tp])) := by rw [hGy]; exact gup_keep hro hm (by simp)
    have hro3 : Gy ro = some (.inl (Z.2 0, 48, .inr (.inl f2))) := by rw [hGy]; exact gup_self _ _ _
    have hs3 : Gy sh = some (.inr (1, [.int (nI C), .int (nI E)])) := by rw [hGy]; exact gup_keep hro hs (by simp)
    refine lv_iload_n hx hb d_ma_leastSeed_26 rfl (lv_at hl 3 rfl) ?_
    refine lv_aload_n hx hb d_ma_leastSeed_27 rfl (lv_at hl 0 rfl) ?_
    refine g_get S hE.1 hG.1 hm3 rfl in_ma 2 (by decide) tw_53 (fun _ h9 => h9) rfl d_ma_leastSeed_28 ?_
    refine g_ge (tgt := 63) hx hb d_ma_leastSeed_31 (by decide) (by omega) (by omega) (fun c31 => ?_) (fun c31 => ?_)
    · refine lv_aload_n hx hb d_ma_leastSeed_63 rfl (lv_at hl 0 rfl) ?_
      refine lv_iload_n hx hb d_ma_leastSeed_64 rfl (lv_at hl 2 rfl) ?_
      refine lv_iconst (v := 0) hx hb d_ma_leastSeed_65 (by decide) ?_
      refine g_retl (g_runS (As := [.int va, .int 0]) (rest := [.ref h]) S lk_ma_53 k_ma_row (c_ma_row l Z Gy va 0) ⟨rfl, rfl⟩ ⟨Nat.le_of_ble_eq_true rfl, Nat.le_of_ble_eq_true rfl⟩ (gPreS hG.1 hE) rfl hl.1 rfl (Nat.le_of_ble_eq_true rfl) d_ma_leastSeed_66 ⟨Nat.le_of_ble_eq_true rfl, Nat.le_of_ble_eq_true rfl⟩) (fun r66 h66 => ?_)
      refine g_retl (g_runV (As := [.long r66]) (rest := []) S lk_ma_57 k_ma_reduced (c_ma_reduced l Z Gy h hm3 hro3 r66) ⟨rfl, rfl⟩ ⟨Nat.le_of_ble_eq_true rfl, Nat.le_of_ble_eq_true rfl⟩ (gPreV hG.1 hE hm3 rfl) rfl hl.1 rfl (Nat.le_of_ble_eq_true rfl) d_ma_leastSeed_69 ⟨Nat.le_of_ble_eq_true rfl, Nat.le_of_ble_eq_true rfl⟩) (fun r69 h69 => ?_)
      refine lv_lstore_n (lv' := [(3, .long r69), (0, .ref h), (1, .int ca), (2, .int va)]) hx hb d_ma_leastSeed_72 rfl hl (by decide) rfl (fun ls hl => ?_)
      refine lv_lload_n hx hb d_ma_leastSeed_73 rfl (lv_at hl 0 rfl) ?_
      refine g_retl (g_runS (As := [.long r69]) (rest := []) S lk_ma_65 k_ma_cellsOf (c_ma_cellsOf l Z Gy r69) ⟨rfl, rfl⟩ ⟨Nat.le_of_ble_eq_true rfl, Nat.le_of_ble_eq_true rfl⟩ (gPreS hG.1 hE) rfl hl.1 rfl (Nat.le_of_ble_eq_true rfl) d_ma_leastSeed_74 ⟨Nat.le_of_ble_eq_true rfl, Nat.le_of_ble_eq_true rfl⟩) (fun r74 h74 => ?_)
      refine lv_lconst (v := 0) hx hb d_ma_leastSeed_77 (by decide) ?_
      refine W.lcmp hx hb d_ma_leastSeed_78 ?_
      refine lv_if_eq (tgt := 86) hx hb d_ma_leastSeed_79 (by decide) (fun c79 => ?_) (fun c79 => ?_)
      · refine lv_lload_n hx hb d_ma_leastSeed_86 rfl (lv_at hl 0 rfl) ?_
        refine lv_l2i hx hb d_ma_leastSeed_87 rfl ?_
        refine W.widen (k := 0) (n := 0) (Nat.le_of_ble_eq_true rfl) (Nat.le_of_ble_eq_true rfl) ?_
        exact (W.iret hx hb hr (fun t9 ht9 hW9 => ⟨⟨_, _, rfl, ⟨f2, hGy, by
            rw [h69, h66] at h74
            have e1 : t = D := by omega
            first | (have e9 : r74 = 0 := (lg_cmp_eq _ _).mp c79; rw [h74, hf2, e1] at e9; rw [lsC, if_pos e9, h69, h66, hf2, e1]) | (have e9 : ¬ r74 = 0 := fun z => c79 ((lg_cmp_eq _ _).mpr z); rw [h74, hf2, e1] at e9; rw [lsC, if_neg e9])⟩, by rw [ht9]; exact hG.1, hG.2.1⟩, hG.2.2.1.F ht9⟩) hG.2.2.1.2.2 d_ma_leastSeed_88)
      · refine lv_iconst (v := (-1)) hx hb d_ma_leastSeed_82 (by decide) ?_
        refine lv_goto (tgt := 88) hx hb d_ma_leastSeed_83 (by decide) ?_
        refine W.widen (k := 0) (n := 0) (Nat.le_of_ble_eq_true rfl) (Nat.le_of_ble_eq_true rfl) ?_
        exact (W.iret hx hb hr (fun t9 ht9 hW9 => ⟨⟨_, _, rfl, ⟨f2, hGy, by
            rw [h69, h66] at h74
            have e1 : t = D := by omega
            first | (have e9 : r74 = 0 := (lg_cmp_eq _ _).mp c79; rw [h74, hf2, e1] at e9; rw [lsC, if_pos e9, h69, h66, hf2, e1]) | (have e9 : ¬ r74 = 0 := fun z => c79 ((lg_cmp_eq _ _).mpr z); rw [h74, hf2, e1] at e9; rw [lsC, if_neg e9])⟩, by rw [ht9]; exact hG.1, hG.2.1⟩, hG.2.2.1.F ht9⟩) hG.2.2.1.2.2 d_ma_leastSeed_88)
    · refine lv_aload_n hx hb d_ma_leastSeed_34 rfl (lv_at hl 0 rfl) ?_
      refine lv_aload_n hx hb d_ma_leastSeed_35 rfl (lv_at hl 0 rfl) ?_
      refine lv_aload_n hx hb d_ma_leastSeed_36 rfl (lv_at hl 0 rfl) ?_
      refine lv_iconst (v := 1) hx hb d_ma_leastSeed_37 (by decide) ?_
      refine lv_iload_n hx hb d_ma_leastSeed_38 rfl (lv_at hl 3 rfl) ?_
      refine lv_ishl hx hb d_ma_leastSeed_39 ?_
      refine g_reti (g_runV (As := [.int (1 <<< ((nI t) &&& 31))]) (rest := [.ref h, .ref h]) S lk_ma_50 k_ma_make (c_ma_make l Z Gy h hm3 hs3 hC hE8 (1 <<< ((nI t) &&& 31))) ⟨rfl, rfl⟩ ⟨Nat.le_of_ble_eq_true rfl, Nat.le_of_ble_eq_true rfl⟩ (gPreV hG.1 hE hm3 rfl) rfl hl.1 rfl (Nat.le_of_ble_eq_true rfl) d_ma_leastSeed_40 ⟨Nat.le_of_ble_eq_true rfl, Nat.le_of_ble_eq_true rfl⟩) (fun r40 h40 => ?_)
      refine lv_iload_n hx hb d_ma_leastSeed_43 rfl (lv_at hl 1 rfl) ?_
      refine lv_iand hx hb d_ma_leastSeed_44 ?_
      refine lv_iconst (v := 1) hx hb d_ma_leastSeed_45 (by decide) ?_
      refine lv_iload_n hx hb d_ma_leastSeed_46 rfl (lv_at hl 3 rfl) ?_
      refine lv_ishl hx hb d_ma_leastSeed_47 ?_
      refine g_retl (g_runS (As := [.int (r40 &&& ca), .int (1 <<< ((nI t) &&& 31))]) (rest := [.ref h, .ref h]) S lk_ma_53 k_ma_row (c_ma_row l Z Gy (r40 &&& ca) (1 <<< ((nI t) &&& 31))) ⟨rfl, rfl⟩ ⟨Nat.le_of_ble_eq_true rfl, Nat.le_of_ble_eq_true rfl⟩ (gPreS hG.1 hE) rfl hl.1 rfl (Nat.le_of_ble_eq_true rfl) d_ma_leastSeed_48 ⟨Nat.le_of_ble_eq_true rfl, Nat.le_of_ble_eq_true rfl⟩) (fun r48 h48 => ?_)
      refine g_retl (g_runV (As := [.long r48]) (rest := [.ref h]) S lk_ma_57 k_ma_reduced (c_ma_reduced l Z Gy h hm3 hro3 r48) ⟨rfl, rfl⟩ ⟨Nat.le_of_ble_eq_true rfl, Nat.le_of_ble_eq_true rfl⟩ (gPreV hG.1 hE hm3 rfl) rfl hl.1 rfl (Nat.le_of_ble_eq_true rfl) d_ma_leastSeed_51 ⟨Nat.le_of_ble_eq_true rfl, Nat.le_of_ble_eq_true rfl⟩) (fun r51 h51 => ?_)
      refine g_wv hG (g_runV (As := [.long r51]) (rest := []) S lk_ma_61 k_ma_keep (c_ma_keep l Z Gy H.size h hm3 hro3 r51) ⟨rfl, rfl⟩ ⟨(Nat.le_of_ble_eq_true rfl), (Nat.le_of_ble_eq_true rfl)⟩ (gPwV hG.1 hE hm3 rfl) rfl hl.1 rfl (Nat.le_of_ble_eq_true rfl) d_ma_leastSeed_54 ⟨(Nat.le_of_ble_eq_true rfl), (Nat.le_of_ble_eq_true rfl)⟩) (fun G54 H locs h54 hG => ?_)
      refine lv_iinc (v := nI (t + 1)) (lv' := [(3, .int (nI (t + 1))), (0, .ref h), (1, .int ca), (2, .int va)]) hx hb d_ma_leastSeed_57 hl (k := 3) rfl (show nI t + 1 = _ from nI_1 t) (by decide) rfl (fun ls hl => ?_)
      refine lv_goto (tgt := 26) hx hb d_ma_leastSeed_60 (by decide) ?_
      exact ih26 ((t + 1), keepC r51 f2 32, G54) _ _ _ ⟨⟨by omega, by rw [h51, h48, h40, hf2]; rfl, by rw [h54, hGy, gup_gup]⟩, hG, lv_sub hl [1, 2, 3, 0] rfl⟩ (by first | omega | (simp only []; omega))
  · refine lv_aload_n hx hb d_ma_leastSeed_11 rfl (lv_at hl 0 rfl) ?_
    refine g_get S hE.1 hG.1 hm1 rfl in_ma 1 (by decide) tw_52 (fun _ h9 => h9) rfl d_ma_leastSeed_12 ?_
    refine lv_iload_n hx hb d_ma_leastSeed_15 rfl (lv_at hl 3 rfl) ?_
    refine lv_lconst (v := 0) hx hb d_ma_leastSeed_16 (by decide) ?_
    refine g_last S hE.1 hG hro1 0 rfl (vp_in_nI (by omega) (by omega)) d_ma_leastSeed_17 (fun H locs hG => ?_)
    rw [nI_clamp (show i < 2 ^ 31 by omega)] at hG
    have hG : gS (gA G s.heap.size) s.heap Z.1 cls (gup Gx ro (.inl (Z.2 0, 48, .inr (.inl (vp_updL f i 0))))) H locs := hG
    generalize eG17 : gup Gx ro (.inl (Z.2 0, 48, .inr (.inl (vp_updL f i 0)))) = G17 at hG
    have f17_h : G17 h = some (.inr (2, [.ref sh, .ref ro, .int (nI D), .int tp])) := by rw [← eG17]; exact gup_keep hro1 hm1 (by simp)
    have f17_sh : G17 sh = some (.inr (1, [.int (nI C), .int (nI E)])) := by rw [← eG17]; exact gup_keep hro1 hs1 (by simp)
    have f17 : G17 ro = some (.inl (Z.2 0, 48, .inr (.inl (vp_updL f i 0)))) := by rw [← eG17]; exact gup_self _ _ _
    refine lv_iinc (v := nI (i + 1)) (lv' := [(3, .int (nI (i + 1))), (0, .ref h), (1, .int ca), (2, .int va)]) hx hb d_ma_leastSeed_18 hl (k := 3) rfl (show nI i + 1 = _ from nI_1 i) (by decide) rfl (fun ls hl => ?_)
    refine lv_goto (tgt := 2) hx hb d_ma_leastSeed_21 (by decide) ?_
    exact ih2 ((i + 1), vp_updL f i 0, G17) _ _ _ ⟨⟨by omega, fun j hj => by
        by_cases hji : j = i
        · subst hji; exact pk_uLs
        · rw [pk_uLn hji]; exact hf j (by omega), by rw [← eG17, hGx, gup_gup]⟩, hG, lv_sub hl [1, 2, 3, 0] rfl⟩ (by first | omega | (simp only []; omega))

set_option maxHeartbeats 4000000 in
set_option maxRecDepth 100000 in
theorem c_ps_forgetSeeds (l : Launch) (Z : gZ) (G : gh) (sz : Nat) (x : Nat) {sh ma pa : Nat} {mad fk : Int32} (hx0 : G x = some (.inr (0, [.ref sh, .ref ma, .ref pa, .int mad, .int fk]))) {pt : Nat → Option Nat} {pd : Nat → Pat} (hpa : G pa = some (.inl (Z.2 3, 24, .inr (.inr (.inr (.inr pt)))))) (hpt : ∀ i a, i < 24 → pt i = some a → G a = some (.inr (3, pfs (pd i)))) (hinj : ptInj pt) : Met l y_ps_forgetSeeds (wd_ps_forgetSeeds :: Gall) ({ frames := 1, cells := 0, slots := 0, locals := 22 }) (va_Pc [.ref x] (gPw Z G sz)) (va_Qv (fun (G9 : gh) => G9 = patG G pt (fgN pt pd 24)) (gW Z G sz) (gA G sz)) 0 0 (gA G sz) := by
  refine Met.ofW (cc := b_ps_forgetSeeds) (maxL := 3) (ret := none) (by decide) rfl ?_
  intro p e s m args below meth c s₁ B hml hv
  obtain ⟨rfl, hsz, hG, hE⟩ := hv
  subst hsz
  have hx := B.exec
  have hb := B.bytes
  have hr := B.returns
  have hlocks := B.notSynchronized
  have S : CallFix p m c b_ps_forgetSeeds 3 s _ Gall "PackSeeds" := ⟨hx, hb, hml, findClass_of_methodNamed B.named, fun w hw => atoms_spec (ws := wd_ps_forgetSeeds :: Gall) B.pre w (List.mem_cons_of_mem _ hw)⟩
  have hG : gS (gA G s.heap.size) s.heap Z.1 cls G s.heap [] := gS.start hG
  have hl := lv_entry ([.ref x]) (n := 3) (Nat.le_of_ble_eq_true rfl)
  rw [lg_entry_eq]
  generalize (lg_sl ([.ref x]) ++ List.replicate (3 - (lg_sl ([.ref x])).length) Slot.unset).toArray = ls at hl ⊢
  have hl : lv_has ls 3 [(0, .ref x)] := hl
  refine lv_iconst (v := nI 0) hx hb d_ps_forgetSeeds_0 (by decide) ?_
  refine lv_istore_n (lv' := [(1, .int (nI 0)), (0, .ref x)]) hx hb d_ps_forgetSeeds_1 rfl hl (by decide) rfl (fun ls hl => ?_)
  refine g_indH (V := Nat × (Nat → Pat) × gh) (fun (i, P, Gx) H locs ls => (i ≤ 24 ∧ P = fgN pt pd i ∧ Gx = patG G pt P) ∧ gS (gA G s.heap.size) s.heap Z.1 cls Gx H locs ∧ lv_has ls 3 [(0, .ref x), (1, .int (nI i))]) (fun (i, P, Gx) => 24 - i) ?_ (0, pd, G) _ ⟨⟨Nat.zero_le _, rfl, (patG_self hpt).symm⟩, hG, lv_sub hl [1, 0] rfl⟩
  intro v H locs ls hI ih2
  obtain ⟨i, P, Gx⟩ := v
  obtain ⟨⟨hi, hP, hGx⟩, hG, hl⟩ := hI
  have hx1 : Gx x = some (.inr (0, [.ref sh, .ref ma, .ref pa, .int mad, .int fk])) := by rw [hGx]; exact patG_keep hpt hx0 (by simp)
  have hpa1 : Gx pa = some (.inl (Z.2 3, 24, .inr (.inr (.inr (.inr pt))))) := by rw [hGx]; exact patG_keep hpt hpa (by simp)
  have hpt1 : ∀ i a, i < 24 → pt i = some a → Gx a = some (.inr (3, pfs (P i))) := fun i a hi hp => by rw [hGx]; exact patG_get hinj hi hp
  refine lv_iload_n hx hb d_ps_forgetSeeds_2 rfl (lv_at hl 1 rfl) ?_
  refine lv_aload_n hx hb d_ps_forgetSeeds_3 rfl (lv_at hl 0 rfl) ?_
  refine g_get S hE.1 hG.1 hx1 rfl in_ps 2 (by decide) tw_70 (fun _ h9 => h9) rfl d_ps_forgetSeeds_4 ?_
  refine g_alen S hE.1 hG.1 hpa1 3 rfl (v := nI 24) rfl d_ps_forgetSeeds_7 ?_
  refine g_ge (tgt := 32) hx hb d_ps_forgetSeeds_8 (by decide) (by omega) (by omega) (fun c8 => ?_) (fun c8 => ?_)
  · refine W.widen (k := 0) (n := 0) (Nat.le_of_ble_eq_true rfl) (Nat.le_of_ble_eq_true rfl) ?_
    exact (W.vret hx hb hr (fun t9 ht9 hW9 => ⟨⟨_, rfl, (by rw [hGx, hP, show i = 24 by omega]), by rw [ht9]; exact hG.1, hG.2.1⟩, hG.2.2.1.F ht9⟩) hG.2.2.1.2.2 d_ps_forgetSeeds_32)
  · refine lv_aload_n hx hb d_ps_forgetSeeds_11 rfl (lv_at hl 0 rfl) ?_
    refine lv_iload_n hx hb d_ps_forgetSeeds_12 rfl (lv_at hl 1 rfl) ?_
    refine g_retq (g_runV (As := [.int (nI i)]) (rest := []) S lk_ps_65 k_ps_presentOrNull (c_ps_presentOrNull l Z Gx x hx1 hpa1 hpt1 (nI i)) ⟨rfl, rfl⟩ ⟨Nat.le_of_ble_eq_true rfl, Nat.le_of_ble_eq_true rfl⟩ (gPreV hG.1 hE hx1 rfl) rfl hl.1 rfl (Nat.le_of_ble_eq_true rfl) d_ps_forgetSeeds_13 ⟨Nat.le_of_ble_eq_true rfl, Nat.le_of_ble_eq_true rfl⟩) (fun r13 h13 => ?_)
    cases r13 with
    | none =>
      refine lv_astore_nN (lv' := [(2, .null), (0, .ref x), (1, .int (nI i))]) hx hb d_ps_forgetSeeds_16 rfl hl (by decide) rfl (fun ls hl => ?_)
      refine lv_aload_nN hx hb d_ps_forgetSeeds_17 rfl (lv_at hl 0 rfl) ?_
      refine lv_ifnullN (tgt := 26) hx hb d_ps_forgetSeeds_18 (by decide) ?_
      refine lv_iinc (v := nI (i + 1)) (lv' := [(1, .int (nI (i + 1))), (2, .null), (0, .ref x)]) hx hb d_ps_forgetSeeds_26 hl (k := 2) rfl (show nI i + 1 = _ from nI_1 i) (by decide) rfl (fun ls hl => ?_)
      refine lv_goto (tgt := 2) hx hb d_ps_forgetSeeds_29 (by decide) ?_
      exact ih2 ((i + 1), fgN pt pd (i + 1), Gx) _ _ _ ⟨⟨by omega, rfl, by
          simp only [fgN, itr_s]; rw [← fgN, ← hP]
          first | (rw [prI_nat _ _ (by omega)] at h13; rw [← h13, hGx]; rfl) | (rw [← h13, ← eG23, hGx]; exact patG_up hinj (by omega) p13 (qsd (P i) (-1)))⟩, hG, lv_sub hl [2, 0] rfl⟩ (by first | omega | (simp only []; omega))
    | some a13 =>
      rw [prI_nat _ _ (by omega)] at h13
      obtain ⟨p13, g13⟩ := prN_some h13
      refine lv_astore_n (lv' := [(2, .ref a13), (0, .ref x), (1, .int (nI i))]) hx hb d_ps_forgetSeeds_16 rfl hl (by decide) rfl (fun ls hl => ?_)
      refine lv_aload_n hx hb d_ps_forgetSeeds_17 rfl (lv_at hl 0 rfl) ?_
      refine lv_ifnull hx hb d_ps_forgetSeeds_18 ?_
      refine lv_aload_n hx hb d_ps_forgetSeeds_21 rfl (lv_at hl 0 rfl) ?_
      refine lv_iconst (v := (-1)) hx hb d_ps_forgetSeeds_22 (by decide) ?_
      refine g_putN S hE.1 hG (hpt1 i a13 (by omega) p13) rfl in_pt ty_pt tyok_pt nm_pt 4 (by decide) (hE.2 _ nw_22) (fun _ h9 => h9) rfl (ty := .int) (by decide +kernel) rfl rfl (Nat.le_of_ble_eq_true rfl) d_ps_forgetSeeds_23 (fun H locs hG => ?_)
      have hG : gS (gA G s.heap.size) s.heap Z.1 cls (gup Gx a13 (.inr (3, [.int (pca (P i)), .int (pva (P i)), .int (pmk (P i)), .int (pfa (P i)), .int (-1), .int (pgn (P i))]))) H locs := hG
      generalize eG23 : gup Gx a13 (.inr (3, [.int (pca (P i)), .int (pva (P i)), .int (pmk (P i)), .int (pfa (P i)), .int (-1), .int (pgn (P i))])) = G23 at hG
      have f23_x : G23 x = some (.inr (0, [.ref sh, .ref ma, .ref pa, .int mad, .int fk])) := by rw [← eG23]; exact gup_keep (hpt1 i a13 (by omega) p13) hx1 (by simp)
      have f23_pa : G23 pa = some (.inl (Z.2 3, 24, .inr (.inr (.inr (.inr pt))))) := by rw [← eG23]; exact gup_keep (hpt1 i a13 (by omega) p13) hpa1 (by simp)
      have f23 : G23 a13 = some (.inr (3, [.int (pca (P i)), .int (pva (P i)), .int (pmk (P i)), .int (pfa (P i)), .int (-1), .int (pgn (P i))])) := by rw [← eG23]; exact gup_self _ _ _
      refine lv_iinc (v := nI (i + 1)) (lv' := [(1, .int (nI (i + 1))), (2, .ref a13), (0, .ref x)]) hx hb d_ps_forgetSeeds_26 hl (k := 2) rfl (show nI i + 1 = _ from nI_1 i) (by decide) rfl (fun ls hl => ?_)
      refine lv_goto (tgt := 2) hx hb d_ps_forgetSeeds_29 (by decide) ?_
      exact ih2 ((i + 1), fgN pt pd (i + 1), G23) _ _ _ ⟨⟨by omega, rfl, by
          simp only [fgN, itr_s]; rw [← fgN, ← hP]
          first | (rw [prI_nat _ _ (by omega)] at h13; rw [← h13, hGx]; rfl) | (rw [← h13, ← eG23, hGx]; exact patG_up hinj (by omega) p13 (qsd (P i) (-1)))⟩, hG, lv_sub hl [2, 0] rfl⟩ (by first | omega | (simp only []; omega))

set_option maxHeartbeats 4000000 in
set_option maxRecDepth 100000 in
theorem c_ps_takeFromBehind (l : Launch) (Z : gZ) (G : gh) (sz : Nat) (x : Nat) {sh ma pa : Nat} {mad fk : Int32} (hx0 : G x = some (.inr (0, [.ref sh, .ref ma, .ref pa, .int mad, .int fk]))) {pt : Nat → Option Nat} {pd : Nat → Pat} (hpa : G pa = some (.inl (Z.2 3, 24, .inr (.inr (.inr (.inr pt)))))) (hpt : ∀ i a, i < 24 → pt i = some a → G a = some (.inr (3, pfs (pd i)))) (hinj : ptInj pt) (tk i : Nat) (hi : i < 24) (hti : pt i = some tk) : Met l y_ps_takeFromBehind (wd_ps_takeFromBehind :: Gall) ({ frames := 1, cells := 0, slots := 0, locals := 22 }) (va_Pc [.ref x, .ref tk, .int (nI i)] (gPw Z G sz)) (va_Qv (fun (G9 : gh) => G9 = patG G pt (tkB pt i pd (23 - i))) (gW Z G sz) (gA G sz)) 0 0 (gA G sz) := by
  refine Met.ofW (cc := b_ps_takeFromBehind) (maxL := 5) (ret := none) (by decide) rfl ?_
  intro p e s m args below meth c s₁ B hml hv
  obtain ⟨rfl, hsz, hG, hE⟩ := hv
  subst hsz
  have hx := B.exec
  have hb := B.bytes
  have hr := B.returns
  have hlocks := B.notSynchronized
  have S : CallFix p m c b_ps_takeFromBehind 5 s _ Gall "PackSeeds" := ⟨hx, hb, hml, findClass_of_methodNamed B.named, fun w hw => atoms_spec (ws := wd_ps_takeFromBehind :: Gall) B.pre w (List.mem_cons_of_mem _ hw)⟩
  have hG : gS (gA G s.heap.size) s.heap Z.1 cls G s.heap [] := gS.start hG
  have hl := lv_entry ([.ref x, .ref tk, .int (nI i)]) (n := 5) (Nat.le_of_ble_eq_true rfl)
  rw [lg_entry_eq]
  generalize (lg_sl ([.ref x, .ref tk, .int (nI i)]) ++ List.replicate (5 - (lg_sl ([.ref x, .ref tk, .int (nI i)])).length) Slot.unset).toArray = ls at hl ⊢
  have hl : lv_has ls 5 [(0, .ref x), (1, .ref tk), (2, .int (nI i))] := hl
  refine lv_iload_n hx hb d_ps_takeFromBehind_0 rfl (lv_at hl 2 rfl) ?_
  refine lv_iconst (v := 1) hx hb d_ps_takeFromBehind_1 (by decide) ?_
  refine lv_iadd hx hb d_ps_takeFromBehind_2 ?_
  refine g_topi (y := nI (i + 1)) (nI_1 i) ?_
  refine lv_istore_n (lv' := [(3, .int (nI (i + 1))), (0, .ref x), (1, .ref tk), (2, .int (nI i))]) hx hb d_ps_takeFromBehind_3 rfl hl (by decide) rfl (fun ls hl => ?_)
  refine g_indH (V := Nat × (Nat → Pat) × gh) (fun (m9, P, Gx) H locs ls => (m9 ≤ 23 - i ∧ P = tkB pt i pd m9 ∧ Gx = patG G pt P) ∧ gS (gA G s.heap.size) s.heap Z.1 cls Gx H locs ∧ lv_has ls 5 [(0, .ref x), (1, .ref tk), (2, .int (nI i)), (3, .int (nI (i + 1 + m9)))]) (fun (m9, P, Gx) => 23 - i - m9) ?_ (0, pd, G) _ ⟨⟨Nat.zero_le _, rfl, (patG_self hpt).symm⟩, hG, lv_sub hl [1, 2, 3, 0] rfl⟩
  intro v H locs ls hI ih4
  obtain ⟨m9, P, Gx⟩ := v
  obtain ⟨⟨hm9, hP, hGx⟩, hG, hl⟩ := hI
  have hx1 : Gx x = some (.inr (0, [.ref sh, .ref ma, .ref pa, .int mad, .int fk])) := by rw [hGx]; exact patG_keep hpt hx0 (by simp)
  have hpa1 : Gx pa = some (.inl (Z.2 3, 24, .inr (.inr (.inr (.inr pt))))) := by rw [hGx]; exact patG_keep hpt hpa (by simp)
  have hpt1 : ∀ i a, i < 24 → pt i = some a → Gx a = some (.inr (3, pfs (P i))) := fun i a hi hp => by rw [hGx]; exact patG_get hinj hi hp
  refine lv_iload_n hx hb d_ps_takeFromBehind_4 rfl (lv_at hl 3 rfl) ?_
  refine lv_aload_n hx hb d_ps_takeFromBehind_5 rfl (lv_at hl 0 rfl) ?_
  refine g_get S hE.1 hG.1 hx1 rfl in_ps 2 (by decide) tw_70 (fun _ h9 => h9) rfl d_ps_takeFromBehind_6 ?_
  refine g_alen S hE.1 hG.1 hpa1 3 rfl (v := nI 24) rfl d_ps_takeFromBehind_9 ?_
  refine g_ge (tgt := 46) hx hb d_ps_takeFromBehind_10 (by decide) (by omega) (by omega) (fun c10 => ?_) (fun c10 => ?_)
  · refine W.widen (k := 0) (n := 0) (Nat.le_of_ble_eq_true rfl) (Nat.le_of_ble_eq_true rfl) ?_
    exact (W.vret hx hb hr (fun t9 ht9 hW9 => ⟨⟨_, rfl, (by rw [hGx, hP, show m9 = 23 - i by omega]), by rw [ht9]; exact hG.1, hG.2.1⟩, hG.2.2.1.F ht9⟩) hG.2.2.1.2.2 d_ps_takeFromBehind_46)
  · refine lv_aload_n hx hb d_ps_takeFromBehind_13 rfl (lv_at hl 0 rfl) ?_
    refine lv_iload_n hx hb d_ps_takeFromBehind_14 rfl (lv_at hl 3 rfl) ?_
    refine g_retq (g_runV (As := [.int (nI (i + 1 + m9))]) (rest := []) S lk_ps_65 k_ps_presentOrNull (c_ps_presentOrNull l Z Gx x hx1 hpa1 hpt1 (nI (i + 1 + m9))) ⟨rfl, rfl⟩ ⟨Nat.le_of_ble_eq_true rfl, Nat.le_of_ble_eq_true rfl⟩ (gPreV hG.1 hE hx1 rfl) rfl hl.1 rfl (Nat.le_of_ble_eq_true rfl) d_ps_takeFromBehind_15 ⟨Nat.le_of_ble_eq_true rfl, Nat.le_of_ble_eq_true rfl⟩) (fun r15 h15 => ?_)
    cases r15 with
    | none =>
      refine lv_astoreN (lv' := [(4, .null), (0, .ref x), (1, .ref tk), (2, .int (nI i)), (3, .int (nI (i + 1 + m9)))]) hx hb d_ps_takeFromBehind_18 hl (by decide) rfl (fun ls hl => ?_)
      refine lv_aloadN hx hb d_ps_takeFromBehind_20 (lv_at hl 0 rfl) ?_
      refine lv_ifnullN (tgt := 40) hx hb d_ps_takeFromBehind_22 (by decide) ?_
      refine lv_iinc (v := nI ((i + 1 + m9) + 1)) (lv' := [(3, .int (nI ((i + 1 + m9) + 1))), (4, .null), (0, .ref x), (1, .ref tk), (2, .int (nI i))]) hx hb d_ps_takeFromBehind_40 hl (k := 4) rfl (show nI (i + 1 + m9) + 1 = _ from nI_1 (i + 1 + m9)) (by decide) rfl (fun ls hl => ?_)
      refine lv_goto (tgt := 4) hx hb d_ps_takeFromBehind_43 (by decide) ?_
      exact ih4 ((m9 + 1), tkB pt i pd (m9 + 1), Gx) _ _ _ ⟨⟨by omega, rfl, by
          simp only [tkB, itr_s]; rw [← tkB, ← hP]; unfold tkS
          first | (rw [prI_nat _ _ (by omega)] at h15; rw [← h15, hGx]; rfl) | (rw [if_neg (fun z => z.2 (by rw [← h28]; exact c31)), hGx]) | (rw [if_pos ⟨by rw [← h15]; rfl, by rw [← h28]; exact c31⟩, h37, hGx, patG_up hinj hi hti, patG_up hinj (by omega) p15])⟩, hG, lv_sub hl [2, 3, 4, 0] rfl⟩ (by first | omega | (simp only []; omega))
    | some a15 =>
      rw [prI_nat _ _ (by omega)] at h15
      obtain ⟨p15, g15⟩ := prN_some h15
      refine lv_astore (lv' := [(4, .ref a15), (0, .ref x), (1, .ref tk), (2, .int (nI i)), (3, .int (nI (i + 1 + m9)))]) hx hb d_ps_takeFromBehind_18 hl (by decide) rfl (fun ls hl => ?_)
      refine lv_aload hx hb d_ps_takeFromBehind_20 (lv_at hl 0 rfl) ?_
      refine lv_ifnull hx hb d_ps_takeFromBehind_22 ?_
      refine lv_aload_n hx hb d_ps_takeFromBehind_25 rfl (lv_at hl 2 rfl) ?_
      refine lv_aload hx hb d_ps_takeFromBehind_26 (lv_at hl 0 rfl) ?_
      refine g_reti (g_runVN (As := [.ref a15]) (rest := []) S hE lk_ps_190 k_pt_goesWith (c_pt_goesWith l Z Gx tk (hpt1 i tk hi hti) a15 (hpt1 (i + 1 + m9) a15 (by omega) p15)) ⟨rfl, rfl⟩ ⟨Nat.le_of_ble_eq_true rfl, Nat.le_of_ble_eq_true rfl⟩ (gPreV hG.1 hE (hpt1 i tk hi hti) rfl) rfl hl.1 rfl (Nat.le_of_ble_eq_true rfl) d_ps_takeFromBehind_28 ⟨Nat.le_of_ble_eq_true rfl, Nat.le_of_ble_eq_true rfl⟩) (fun r28 h28 => ?_)
      refine lv_if_eq (tgt := 40) hx hb d_ps_takeFromBehind_31 (by decide) (fun c31 => ?_) (fun c31 => ?_)
      · refine lv_iinc (v := nI ((i + 1 + m9) + 1)) (lv' := [(3, .int (nI ((i + 1 + m9) + 1))), (4, .ref a15), (0, .ref x), (1, .ref tk), (2, .int (nI i))]) hx hb d_ps_takeFromBehind_40 hl (k := 4) rfl (show nI (i + 1 + m9) + 1 = _ from nI_1 (i + 1 + m9)) (by decide) rfl (fun ls hl => ?_)
        refine lv_goto (tgt := 4) hx hb d_ps_takeFromBehind_43 (by decide) ?_
        exact ih4 ((m9 + 1), tkB pt i pd (m9 + 1), Gx) _ _ _ ⟨⟨by omega, rfl, by
            simp only [tkB, itr_s]; rw [← tkB, ← hP]; unfold tkS
            first | (rw [prI_nat _ _ (by omega)] at h15; rw [← h15, hGx]; rfl) | (rw [if_neg (fun z => z.2 (by rw [← h28]; exact c31)), hGx]) | (rw [if_pos ⟨by rw [← h15]; rfl, by rw [← h28]; exact c31⟩, h37, hGx, patG_up hinj hi hti, patG_up hinj (by omega) p15])⟩, hG, lv_sub hl [2, 3, 4, 0] rfl⟩ (by first | omega | (simp only []; omega))
      · refine lv_aload_n hx hb d_ps_takeFromBehind_34 rfl (lv_at hl 2 rfl) ?_
        refine lv_aload hx hb d_ps_takeFromBehind_35 (lv_at hl 0 rfl) ?_
        refine g_wv hG (g_runVN (As := [.ref a15]) (rest := []) S hE lk_ps_194 k_pt_take (c_pt_take l Z Gx H.size tk (hpt1 i tk hi hti) a15 (hpt1 (i + 1 + m9) a15 (by omega) p15) (fun h => by have h8 := hinj i (i + 1 + m9) tk hi (by omega) hti (by rw [p15, h]); omega)) ⟨rfl, rfl⟩ ⟨(Nat.le_of_ble_eq_true rfl), (Nat.le_of_ble_eq_true rfl)⟩ (gPwV hG.1 hE (hpt1 i tk hi hti) rfl) rfl hl.1 rfl (Nat.le_of_ble_eq_true rfl) d_ps_takeFromBehind_37 ⟨(Nat.le_of_ble_eq_true rfl), (Nat.le_of_ble_eq_true rfl)⟩) (fun G37 H locs h37 hG => ?_)
        refine lv_iinc (v := nI ((i + 1 + m9) + 1)) (lv' := [(3, .int (nI ((i + 1 + m9) + 1))), (4, .ref a15), (0, .ref x), (1, .ref tk), (2, .int (nI i))]) hx hb d_ps_takeFromBehind_40 hl (k := 4) rfl (show nI (i + 1 + m9) + 1 = _ from nI_1 (i + 1 + m9)) (by decide) rfl (fun ls hl => ?_)
        refine lv_goto (tgt := 4) hx hb d_ps_takeFromBehind_43 (by decide) ?_
        exact ih4 ((m9 + 1), tkB pt i pd (m9 + 1), G37) _ _ _ ⟨⟨by omega, rfl, by
            simp only [tkB, itr_s]; rw [← tkB, ← hP]; unfold tkS
            first | (rw [prI_nat _ _ (by omega)] at h15; rw [← h15, hGx]; rfl) | (rw [if_neg (fun z => z.2 (by rw [← h28]; exact c31)), hGx]) | (rw [if_pos ⟨by rw [← h15]; rfl, by rw [← h28]; exact c31⟩, h37, hGx, patG_up hinj hi hti, patG_up hinj (by omega) p15])⟩, hG, lv_sub hl [2, 3, 4, 0] rfl⟩ (by first | omega | (simp only []; omega))

set_option maxHeartbeats 4000000 in
set_option maxRecDepth 100000 in
theorem c_ps_join (l : Launch) (Z : gZ) (G : gh) (sz : Nat) (x : Nat) {sh ma pa : Nat} {mad fk : Int32} (hx0 : G x = some (.inr (0, [.ref sh, .ref ma, .ref pa, .int mad, .int fk]))) {pt : Nat → Option Nat} {pd : Nat → Pat} (hpa : G pa = some (.inl (Z.2 3, 24, .inr (.inr (.inr (.inr pt)))))) (hpt : ∀ i a, i < 24 → pt i = some a → G a = some (.inr (3, pfs (pd i)))) (hinj : ptInj pt) : Met l y_ps_join (wd_ps_join :: Gall) ({ frames := 2, cells := 0, slots := 0, locals := 46 }) (va_Pc [.ref x] (gPw Z G sz)) (va_Qi (fun (r : Int32) (G9 : gh) => G9 = patG G pt (joinD pt pd 24) ∧ r = nI (cntP pt (joinD pt pd 24) 24)) (gW Z G sz) (gA G sz)) 0 0 (gA G sz) := by
  refine Met.ofW (cc := b_ps_join) (maxL := 3) (ret := (some .int)) (by decide) rfl ?_
  intro p e s m args below meth c s₁ B hml hv
  obtain ⟨rfl, hsz, hG, hE⟩ := hv
  subst hsz
  have hx := B.exec
  have hb := B.bytes
  have hr := B.returns
  have hlocks := B.notSynchronized
  have S : CallFix p m c b_ps_join 3 s _ Gall "PackSeeds" := ⟨hx, hb, hml, findClass_of_methodNamed B.named, fun w hw => atoms_spec (ws := wd_ps_join :: Gall) B.pre w (List.mem_cons_of_mem _ hw)⟩
  have hG : gS (gA G s.heap.size) s.heap Z.1 cls G s.heap [] := gS.start hG
  have hl := lv_entry ([.ref x]) (n := 3) (Nat.le_of_ble_eq_true rfl)
  rw [lg_entry_eq]
  generalize (lg_sl ([.ref x]) ++ List.replicate (3 - (lg_sl ([.ref x])).length) Slot.unset).toArray = ls at hl ⊢
  have hl : lv_has ls 3 [(0, .ref x)] := hl
  refine lv_iconst (v := nI 0) hx hb d_ps_join_0 (by decide) ?_
  refine lv_istore_n (lv' := [(1, .int (nI 0)), (0, .ref x)]) hx hb d_ps_join_1 rfl hl (by decide) rfl (fun ls hl => ?_)
  refine g_indH (V := Nat × (Nat → Pat) × gh) (fun (i, P, Gx) H locs ls => (i ≤ 24 ∧ P = joinD pt pd i ∧ Gx = patG G pt P) ∧ gS (gA G s.heap.size) s.heap Z.1 cls Gx H locs ∧ lv_has ls 3 [(0, .ref x), (1, .int (nI i))]) (fun (i, P, Gx) => 24 - i) ?_ (0, pd, G) _ ⟨⟨Nat.zero_le _, rfl, (patG_self hpt).symm⟩, hG, lv_sub hl [1, 0] rfl⟩
  intro v H locs ls hI ih2
  obtain ⟨i, P, Gx⟩ := v
  obtain ⟨⟨hi, hP, hGx⟩, hG, hl⟩ := hI
  have hx1 : Gx x = some (.inr (0, [.ref sh, .ref ma, .ref pa, .int mad, .int fk])) := by rw [hGx]; exact patG_keep hpt hx0 (by simp)
  have hpa1 : Gx pa = some (.inl (Z.2 3, 24, .inr (.inr (.inr (.inr pt))))) := by rw [hGx]; exact patG_keep hpt hpa (by simp)
  have hpt1 : ∀ i a, i < 24 → pt i = some a → Gx a = some (.inr (3, pfs (P i))) := fun i a hi hp => by rw [hGx]; exact patG_get hinj hi hp
  refine lv_iload_n hx hb d_ps_join_2 rfl (lv_at hl 1 rfl) ?_
  refine lv_aload_n hx hb d_ps_join_3 rfl (lv_at hl 0 rfl) ?_
  refine g_get S hE.1 hG.1 hx1 rfl in_ps 2 (by decide) tw_70 (fun _ h9 => h9) rfl d_ps_join_4 ?_
  refine g_alen S hE.1 hG.1 hpa1 3 rfl (v := nI 24) rfl d_ps_join_7 ?_
  refine g_ge (tgt := 33) hx hb d_ps_join_8 (by decide) (by omega) (by omega) (fun c8 => ?_) (fun c8 => ?_)
  · refine lv_aload_n hx hb d_ps_join_33 rfl (lv_at hl 0 rfl) ?_
    refine g_reti (g_runV (As := []) (rest := []) S lk_ps_72 k_ps_countPresent (c_ps_countPresent l Z Gx x hx1 hpa1 hpt1) ⟨rfl, rfl⟩ ⟨Nat.le_of_ble_eq_true rfl, Nat.le_of_ble_eq_true rfl⟩ (gPreV hG.1 hE hx1 rfl) rfl hl.1 rfl (Nat.le_of_ble_eq_true rfl) d_ps_join_34 ⟨Nat.le_of_ble_eq_true rfl, Nat.le_of_ble_eq_true rfl⟩) (fun r34 h34 => ?_)
    refine W.widen (k := 0) (n := 0) (Nat.le_of_ble_eq_true rfl) (Nat.le_of_ble_eq_true rfl) ?_
    exact (W.iret hx hb hr (fun t9 ht9 hW9 => ⟨⟨_, _, rfl, ⟨by rw [hGx, hP, show i = 24 by omega], by rw [h34, hP, show i = 24 by omega]⟩, by rw [ht9]; exact hG.1, hG.2.1⟩, hG.2.2.1.F ht9⟩) hG.2.2.1.2.2 d_ps_join_37)
  · refine lv_aload_n hx hb d_ps_join_11 rfl (lv_at hl 0 rfl) ?_
    refine lv_iload_n hx hb d_ps_join_12 rfl (lv_at hl 1 rfl) ?_
    refine g_retq (g_runV (As := [.int (nI i)]) (rest := []) S lk_ps_65 k_ps_presentOrNull (c_ps_presentOrNull l Z Gx x hx1 hpa1 hpt1 (nI i)) ⟨rfl, rfl⟩ ⟨Nat.le_of_ble_eq_true rfl, Nat.le_of_ble_eq_true rfl⟩ (gPreV hG.1 hE hx1 rfl) rfl hl.1 rfl (Nat.le_of_ble_eq_true rfl) d_ps_join_13 ⟨Nat.le_of_ble_eq_true rfl, Nat.le_of_ble_eq_true rfl⟩) (fun r13 h13 => ?_)
    cases r13 with
    | none =>
      refine lv_astore_nN (lv' := [(2, .null), (0, .ref x), (1, .int (nI i))]) hx hb d_ps_join_16 rfl hl (by decide) rfl (fun ls hl => ?_)
      refine lv_aload_nN hx hb d_ps_join_17 rfl (lv_at hl 0 rfl) ?_
      refine lv_ifnullN (tgt := 27) hx hb d_ps_join_18 (by decide) ?_
      refine lv_iinc (v := nI (i + 1)) (lv' := [(1, .int (nI (i + 1))), (2, .null), (0, .ref x)]) hx hb d_ps_join_27 hl (k := 2) rfl (show nI i + 1 = _ from nI_1 i) (by decide) rfl (fun ls hl => ?_)
      refine lv_goto (tgt := 2) hx hb d_ps_join_30 (by decide) ?_
      exact ih2 ((i + 1), joinD pt pd (i + 1), Gx) _ _ _ ⟨⟨by omega, rfl, by
          simp only [joinD, itr_s]; rw [← joinD, ← hP]
          first | (rw [prI_nat _ _ (by omega)] at h13; rw [← h13, hGx]; rfl) | (rw [← h13, h24, hGx, patG_patG]; rfl)⟩, hG, lv_sub hl [2, 0] rfl⟩ (by first | omega | (simp only []; omega))
    | some a13 =>
      rw [prI_nat _ _ (by omega)] at h13
      obtain ⟨p13, g13⟩ := prN_some h13
      refine lv_astore_n (lv' := [(2, .ref a13), (0, .ref x), (1, .int (nI i))]) hx hb d_ps_join_16 rfl hl (by decide) rfl (fun ls hl => ?_)
      refine lv_aload_n hx hb d_ps_join_17 rfl (lv_at hl 0 rfl) ?_
      refine lv_ifnull hx hb d_ps_join_18 ?_
      refine lv_aload_n hx hb d_ps_join_21 rfl (lv_at hl 1 rfl) ?_
      refine lv_aload_n hx hb d_ps_join_22 rfl (lv_at hl 0 rfl) ?_
      refine lv_iload_n hx hb d_ps_join_23 rfl (lv_at hl 2 rfl) ?_
      refine g_wv hG (g_runV (As := [.ref a13, .int (nI i)]) (rest := []) S lk_ps_68 k_ps_takeFromBehind (c_ps_takeFromBehind l Z Gx H.size x hx1 hpa1 hpt1 hinj a13 i (by omega) p13) ⟨rfl, rfl⟩ ⟨(Nat.le_of_ble_eq_true rfl), (Nat.le_of_ble_eq_true rfl)⟩ (gPwV hG.1 hE hx1 rfl) rfl hl.1 rfl (Nat.le_of_ble_eq_true rfl) d_ps_join_24 ⟨(Nat.le_of_ble_eq_true rfl), (Nat.le_of_ble_eq_true rfl)⟩) (fun G24 H locs h24 hG => ?_)
      refine lv_iinc (v := nI (i + 1)) (lv' := [(1, .int (nI (i + 1))), (2, .ref a13), (0, .ref x)]) hx hb d_ps_join_27 hl (k := 2) rfl (show nI i + 1 = _ from nI_1 i) (by decide) rfl (fun ls hl => ?_)
      refine lv_goto (tgt := 2) hx hb d_ps_join_30 (by decide) ?_
      exact ih2 ((i + 1), joinD pt pd (i + 1), G24) _ _ _ ⟨⟨by omega, rfl, by
          simp only [joinD, itr_s]; rw [← joinD, ← hP]
          first | (rw [prI_nat _ _ (by omega)] at h13; rw [← h13, hGx]; rfl) | (rw [← h13, h24, hGx, patG_patG]; rfl)⟩, hG, lv_sub hl [2, 0] rfl⟩ (by first | omega | (simp only []; omega))

set_option maxHeartbeats 4000000 in
set_option maxRecDepth 100000 in
theorem c_ps_drop (l : Launch) (Z : gZ) (G : gh) (sz : Nat) (x : Nat) {sh ma pa : Nat} {mad fk : Int32} (hx0 : G x = some (.inr (0, [.ref sh, .ref ma, .ref pa, .int mad, .int fk]))) {pt : Nat → Option Nat} {pd : Nat → Pat} (hpa : G pa = some (.inl (Z.2 3, 24, .inr (.inr (.inr (.inr pt)))))) (hpt : ∀ i a, i < 24 → pt i = some a → G a = some (.inr (3, pfs (pd i)))) (hinj : ptInj pt) : Met l y_ps_drop (wd_ps_drop :: Gall) ({ frames := 2, cells := 0, slots := 0, locals := 46 }) (va_Pc [.ref x] (gPw Z G sz)) (va_Qi (fun (r : Int32) (G9 : gh) => G9 = patG G pt (drS pt 24 pd) ∧ r = nI (cntP pt (drS pt 24 pd) 24)) (gW Z G sz) (gA G sz)) 0 0 (gA G sz) := by
  refine Met.ofW (cc := b_ps_drop) (maxL := 3) (ret := (some .int)) (by decide) rfl ?_
  intro p e s m args below meth c s₁ B hml hv
  obtain ⟨rfl, hsz, hG, hE⟩ := hv
  subst hsz
  have hx := B.exec
  have hb := B.bytes
  have hr := B.returns
  have hlocks := B.notSynchronized
  have S : CallFix p m c b_ps_drop 3 s _ Gall "PackSeeds" := ⟨hx, hb, hml, findClass_of_methodNamed B.named, fun w hw => atoms_spec (ws := wd_ps_drop :: Gall) B.pre w (List.mem_cons_of_mem _ hw)⟩
  have hG : gS (gA G s.heap.size) s.heap Z.1 cls G s.heap [] := gS.start hG
  have hl := lv_entry ([.ref x]) (n := 3) (Nat.le_of_ble_eq_true rfl)
  rw [lg_entry_eq]
  generalize (lg_sl ([.ref x]) ++ List.replicate (3 - (lg_sl ([.ref x])).length) Slot.unset).toArray = ls at hl ⊢
  have hl : lv_has ls 3 [(0, .ref x)] := hl
  refine lv_aload_n hx hb d_ps_drop_0 rfl (lv_at hl 0 rfl) ?_
  refine g_get S hE.1 hG.1 hx0 rfl in_ps 2 (by decide) tw_70 (fun _ h9 => h9) rfl d_ps_drop_1 ?_
  refine g_alen S hE.1 hG.1 hpa 3 rfl (v := nI 24) rfl d_ps_drop_4 ?_
  refine lv_iconst (v := nI 1) hx hb d_ps_drop_5 (by decide) ?_
  refine lv_isub hx hb d_ps_drop_6 ?_
  refine g_topi (y := nI 23) rfl ?_
  refine lv_istore_n (lv' := [(1, .int (nI 23)), (0, .ref x)]) hx hb d_ps_drop_7 rfl hl (by decide) rfl (fun ls hl => ?_)
  refine g_indH (V := Nat × (Nat → Pat) × gh) (fun (j, P, Gx) H locs ls => (j ≤ 24 ∧ drS pt 24 pd = drS pt j P ∧ Gx = patG G pt P) ∧ gS (gA G s.heap.size) s.heap Z.1 cls Gx H locs ∧ lv_has ls 3 [(0, .ref x), (1, .int (dn j))]) (fun (j, P, Gx) => j) ?_ (24, pd, G) _ ⟨⟨Nat.le_refl _, rfl, (patG_self hpt).symm⟩, hG, lv_sub hl [1, 0] rfl⟩
  intro v H locs ls hI ih8
  obtain ⟨j, P, Gx⟩ := v
  obtain ⟨⟨hj, hP, hGx⟩, hG, hl⟩ := hI
  have hx1 : Gx x = some (.inr (0, [.ref sh, .ref ma, .ref pa, .int mad, .int fk])) := by rw [hGx]; exact patG_keep hpt hx0 (by simp)
  have hpa1 : Gx pa = some (.inl (Z.2 3, 24, .inr (.inr (.inr (.inr pt))))) := by rw [hGx]; exact patG_keep hpt hpa (by simp)
  have hpt1 : ∀ i a, i < 24 → pt i = some a → Gx a = some (.inr (3, pfs (P i))) := fun i a hi hp => by rw [hGx]; exact patG_get hinj hi hp
  cases j with
  | zero =>
    have hl : lv_has ls 3 [(0, .ref x), (1, .int (-1))] := hl
    refine lv_iload_n hx hb d_ps_drop_8 rfl (lv_at hl 1 rfl) ?_
    refine lv_if_lt (tgt := 48) hx hb d_ps_drop_9 (by decide) (fun c9 => ?_) (fun c9 => absurd c9 (not_not_intro (by decide)))
    refine lv_aload_n hx hb d_ps_drop_48 rfl (lv_at hl 0 rfl) ?_
    refine g_reti (g_runV (As := []) (rest := []) S lk_ps_72 k_ps_countPresent (c_ps_countPresent l Z Gx x hx1 hpa1 hpt1) ⟨rfl, rfl⟩ ⟨Nat.le_of_ble_eq_true rfl, Nat.le_of_ble_eq_true rfl⟩ (gPreV hG.1 hE hx1 rfl) rfl hl.1 rfl (Nat.le_of_ble_eq_true rfl) d_ps_drop_49 ⟨Nat.le_of_ble_eq_true rfl, Nat.le_of_ble_eq_true rfl⟩) (fun r49 h49 => ?_)
    refine W.widen (k := 0) (n := 0) (Nat.le_of_ble_eq_true rfl) (Nat.le_of_ble_eq_true rfl) ?_
    exact (W.iret hx hb hr (fun t9 ht9 hW9 => ⟨⟨_, _, rfl, ⟨by rw [hGx, hP]; rfl, by rw [h49, hP]; rfl⟩, by rw [ht9]; exact hG.1, hG.2.1⟩, hG.2.2.1.F ht9⟩) hG.2.2.1.2.2 d_ps_drop_52)
  | succ k =>
    have hl : lv_has ls 3 [(0, .ref x), (1, .int (nI k))] := hl
    refine lv_iload_n hx hb d_ps_drop_8 rfl (lv_at hl 1 rfl) ?_
    refine lv_if_lt (tgt := 48) hx hb d_ps_drop_9 (by decide) (fun c9 => absurd c9 (nI_pos (by omega))) (fun c9 => ?_)
    refine lv_aload_n hx hb d_ps_drop_12 rfl (lv_at hl 0 rfl) ?_
    refine lv_iload_n hx hb d_ps_drop_13 rfl (lv_at hl 1 rfl) ?_
    refine g_retq (g_runV (As := [.int (nI k)]) (rest := []) S lk_ps_65 k_ps_presentOrNull (c_ps_presentOrNull l Z Gx x hx1 hpa1 hpt1 (nI k)) ⟨rfl, rfl⟩ ⟨Nat.le_of_ble_eq_true rfl, Nat.le_of_ble_eq_true rfl⟩ (gPreV hG.1 hE hx1 rfl) rfl hl.1 rfl (Nat.le_of_ble_eq_true rfl) d_ps_drop_14 ⟨Nat.le_of_ble_eq_true rfl, Nat.le_of_ble_eq_true rfl⟩) (fun r14 h14 => ?_)
    cases r14 with
    | none =>
      refine lv_astore_nN (lv' := [(2, .null), (0, .ref x), (1, .int (nI k))]) hx hb d_ps_drop_17 rfl hl (by decide) rfl (fun ls hl => ?_)
      refine lv_aload_nN hx hb d_ps_drop_18 rfl (lv_at hl 0 rfl) ?_
      refine lv_ifnullN (tgt := 42) hx hb d_ps_drop_19 (by decide) ?_
      refine lv_iinc (v := dn k) (lv' := [(1, .int (dn k)), (2, .null), (0, .ref x)]) hx hb d_ps_drop_42 hl (k := 2) rfl (dn_pred k) (by decide) rfl (fun ls hl => ?_)
      refine lv_goto (tgt := 8) hx hb d_ps_drop_45 (by decide) ?_
      exact ih8 (k, (if (prN pt P k).isSome ∧ pfa (P k) &&& (orF pt P (nI k) 24 ^^^ (-1)) = 0 then va_up P k (qgn (P k) 1) else P), Gx) _ _ _ ⟨⟨by omega, by rw [hP]; rfl, by
          first | (rw [prI_nat _ _ (by omega)] at h14; rw [← h14, hGx]; rfl) | (rw [if_neg (fun z => c34 (by rw [h28]; exact z.2)), hGx]) | (rw [if_pos ⟨by rw [← h14]; rfl, by rw [← h28]; exact c34⟩, ← eG39, hGx]; exact patG_up hinj (by omega) p14 (qgn (P k) 1))⟩, hG, lv_sub hl [2, 0] rfl⟩ (by first | omega | (simp only []; omega))
    | some a14 =>
      rw [prI_nat _ _ (by omega)] at h14
      obtain ⟨p14, g14⟩ := prN_some h14
      refine lv_astore_n (lv' := [(2, .ref a14), (0, .ref x), (1, .int (nI k))]) hx hb d_ps_drop_17 rfl hl (by decide) rfl (fun ls hl => ?_)
      refine lv_aload_n hx hb d_ps_drop_18 rfl (lv_at hl 0 rfl) ?_
      refine lv_ifnull hx hb d_ps_drop_19 ?_
      refine lv_aload_n hx hb d_ps_drop_22 rfl (lv_at hl 0 rfl) ?_
      refine g_getN S hE.1 hG.1 (hpt1 k a14 (by omega) p14) rfl in_pt 3 (by decide) (hE.2 _ nw_21) (fun _ h9 => h9) rfl d_ps_drop_23 ?_
      refine lv_aload_n hx hb d_ps_drop_26 rfl (lv_at hl 1 rfl) ?_
      refine lv_iload_n hx hb d_ps_drop_27 rfl (lv_at hl 2 rfl) ?_
      refine g_reti (g_runV (As := [.int (nI k)]) (rest := [.int (pfa (P k))]) S lk_ps_125 k_ps_faultsOfAllBut (c_ps_faultsOfAllBut l Z Gx x hx1 hpa1 hpt1 (nI k)) ⟨rfl, rfl⟩ ⟨Nat.le_of_ble_eq_true rfl, Nat.le_of_ble_eq_true rfl⟩ (gPreV hG.1 hE hx1 rfl) rfl hl.1 rfl (Nat.le_of_ble_eq_true rfl) d_ps_drop_28 ⟨Nat.le_of_ble_eq_true rfl, Nat.le_of_ble_eq_true rfl⟩) (fun r28 h28 => ?_)
      refine lv_iconst (v := (-1)) hx hb d_ps_drop_31 (by decide) ?_
      refine lv_ixor hx hb d_ps_drop_32 ?_
      refine lv_iand hx hb d_ps_drop_33 ?_
      refine lv_if_ne (tgt := 42) hx hb d_ps_drop_34 (by decide) (fun c34 => ?_) (fun c34 => ?_)
      · refine lv_iinc (v := dn k) (lv' := [(1, .int (dn k)), (2, .ref a14), (0, .ref x)]) hx hb d_ps_drop_42 hl (k := 2) rfl (dn_pred k) (by decide) rfl (fun ls hl => ?_)
        refine lv_goto (tgt := 8) hx hb d_ps_drop_45 (by decide) ?_
        exact ih8 (k, (if (prN pt P k).isSome ∧ pfa (P k) &&& (orF pt P (nI k) 24 ^^^ (-1)) = 0 then va_up P k (qgn (P k) 1) else P), Gx) _ _ _ ⟨⟨by omega, by rw [hP]; rfl, by
            first | (rw [prI_nat _ _ (by omega)] at h14; rw [← h14, hGx]; rfl) | (rw [if_neg (fun z => c34 (by rw [h28]; exact z.2)), hGx]) | (rw [if_pos ⟨by rw [← h14]; rfl, by rw [← h28]; exact c34⟩, ← eG39, hGx]; exact patG_up hinj (by omega) p14 (qgn (P k) 1))⟩, hG, lv_sub hl [2, 0] rfl⟩ (by first | omega | (simp only []; omega))
      · refine lv_aload_n hx hb d_ps_drop_37 rfl (lv_at hl 0 rfl) ?_
        refine lv_iconst (v := 1) hx hb d_ps_drop_38 (by decide) ?_
        refine g_putN S hE.1 hG (hpt1 k a14 (by omega) p14) rfl in_pt ty_pt tyok_pt nm_pt 5 (by decide) (hE.2 _ nw_23) (fun _ h9 => h9) rfl (ty := .boolean) (by decide +kernel) rfl rfl (Nat.le_of_ble_eq_true rfl) d_ps_drop_39 (fun H locs hG => ?_)
        have hG : gS (gA G s.heap.size) s.heap Z.1 cls (gup Gx a14 (.inr (3, [.int (pca (P k)), .int (pva (P k)), .int (pmk (P k)), .int (pfa (P k)), .int (psd (P k)), .int 1]))) H locs := hG
        generalize eG39 : gup Gx a14 (.inr (3, [.int (pca (P k)), .int (pva (P k)), .int (pmk (P k)), .int (pfa (P k)), .int (psd (P k)), .int 1])) = G39 at hG
        have f39_x : G39 x = some (.inr (0, [.ref sh, .ref ma, .ref pa, .int mad, .int fk])) := by rw [← eG39]; exact gup_keep (hpt1 k a14 (by omega) p14) hx1 (by simp)
        have f39_pa : G39 pa = some (.inl (Z.2 3, 24, .inr (.inr (.inr (.inr pt))))) := by rw [← eG39]; exact gup_keep (hpt1 k a14 (by omega) p14) hpa1 (by simp)
        have f39 : G39 a14 = some (.inr (3, [.int (pca (P k)), .int (pva (P k)), .int (pmk (P k)), .int (pfa (P k)), .int (psd (P k)), .int 1])) := by rw [← eG39]; exact gup_self _ _ _
        refine lv_iinc (v := dn k) (lv' := [(1, .int (dn k)), (2, .ref a14), (0, .ref x)]) hx hb d_ps_drop_42 hl (k := 2) rfl (dn_pred k) (by decide) rfl (fun ls hl => ?_)
        refine lv_goto (tgt := 8) hx hb d_ps_drop_45 (by decide) ?_
        exact ih8 (k, (if (prN pt P k).isSome ∧ pfa (P k) &&& (orF pt P (nI k) 24 ^^^ (-1)) = 0 then va_up P k (qgn (P k) 1) else P), G39) _ _ _ ⟨⟨by omega, by rw [hP]; rfl, by
            first | (rw [prI_nat _ _ (by omega)] at h14; rw [← h14, hGx]; rfl) | (rw [if_neg (fun z => c34 (by rw [h28]; exact z.2)), hGx]) | (rw [if_pos ⟨by rw [← h14]; rfl, by rw [← h28]; exact c34⟩, ← eG39, hGx]; exact patG_up hinj (by omega) p14 (qgn (P k) 1))⟩, hG, lv_sub hl [2, 0] rfl⟩ (by first | omega | (simp only []; omega))
end
