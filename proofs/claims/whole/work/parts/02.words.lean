/-! the words of the tables that keep: one list for every method -/
def Gall : List Cond := lw_tbl.filter goodWord
theorem gw {w : Cond} (i : Nat) (h : lw_tbl[i]? = some w) (hg : goodWord w = true) : w ∈ Gall := List.mem_filter.mpr ⟨List.mem_of_getElem? h, hg⟩
theorem Gall_good : ∀ w ∈ Gall, goodWord w = true := fun w h => (List.mem_filter.mp h).2
theorem Gall_in : ∀ w ∈ Gall, w ∈ lw_tbl := fun w h => (List.mem_filter.mp h).1
theorem gg {c0 w0 : Cond} (h : w0 ∈ Gall) : GoodIn (c0 :: Gall) (w0 :: Gall) := fun w hw => by
  rcases List.mem_cons.mp hw with rfl | hw
  · exact ⟨List.mem_cons_of_mem _ h, good_of_word (Gall_good _ h)⟩
  · exact ⟨List.mem_cons_of_mem _ hw, good_of_word (Gall_good _ hw)⟩
/-- the texts of the throws -/
def gStr : List (Nat × String) := [(42, "there are 24 patterns"), (184, "there is no such pattern, or it is gone"), (186, "there is no such chain or cell"), (58, "a cell is cared for as 0, 1 or NONE"), (76, "a degree is 1 .. 16"), (90, "there is no such stage"), (93, "the last stage is always tapped"), (188, "there is no such fault"), (135, "from is below 0, or to below from"), (149, "a stream has 1 .. 60 bits"), (151, "a part is 0 or 1"), (160, "a fill is 0 .. 2"), (182, "there is no such what")]
theorem tw_0 : (Jvm.Cond.initialized "PackSeedsLaw") ∈ Gall := gw 40 (by decide +kernel) (by decide +kernel)
theorem tw_1 : (Jvm.Cond.initialized "PackSeeds") ∈ Gall := gw 41 (by decide +kernel) (by decide +kernel)
theorem tw_2 : (Jvm.Cond.initialized "PackSeeds$Shape") ∈ Gall := gw 42 (by decide +kernel) (by decide +kernel)
theorem tw_3 : (Jvm.Cond.initialized "java/lang/Math") ∈ Gall := gw 43 (by decide +kernel) (by decide +kernel)
theorem tw_4 : (Jvm.Cond.initialized "PackSeeds$Machine") ∈ Gall := gw 44 (by decide +kernel) (by decide +kernel)
theorem tw_5 : (Jvm.Cond.initialized "PackSeedsModel") ∈ Gall := gw 45 (by decide +kernel) (by decide +kernel)
theorem tw_6 : (Jvm.Cond.initialized "java/lang/Throwable") ∈ Gall := gw 46 (by decide +kernel) (by decide +kernel)
theorem tw_7 : (Jvm.Cond.initialized "java/lang/Exception") ∈ Gall := gw 47 (by decide +kernel) (by decide +kernel)
theorem tw_8 : (Jvm.Cond.initialized "java/lang/RuntimeException") ∈ Gall := gw 48 (by decide +kernel) (by decide +kernel)
theorem tw_9 : (Jvm.Cond.initialized "java/lang/UnsupportedOperationException") ∈ Gall := gw 49 (by decide +kernel) (by decide +kernel)
theorem tw_10 : (Jvm.Cond.initialized "PackSeeds$Pattern") ∈ Gall := gw 50 (by decide +kernel) (by decide +kernel)
theorem tw_11 : (Jvm.Cond.initialized "java/lang/IndexOutOfBoundsException") ∈ Gall := gw 51 (by decide +kernel) (by decide +kernel)
theorem tw_12 : (Jvm.Cond.initialized "java/lang/IllegalArgumentException") ∈ Gall := gw 52 (by decide +kernel) (by decide +kernel)
theorem tw_13 : (Jvm.Cond.initialized "java/lang/Integer") ∈ Gall := gw 53 (by decide +kernel) (by decide +kernel)
theorem tw_14 : (Jvm.Cond.classLink "PackSeedsLaw" (8 : Nat) "PackSeeds") ∈ Gall := gw 54 (by decide +kernel) (by decide +kernel)
theorem tw_15 : (Jvm.Cond.instantiable "PackSeeds" (5 : Nat)) ∈ Gall := gw 55 (by decide +kernel) (by decide +kernel)
theorem tw_16 : (Jvm.Cond.methodLink "PackSeedsLaw" (77 : Nat) ({ cls := "PackSeeds", name := "<init>", desc := "(II)V" } : Jvm.MethodName)) ∈ Gall := gw 56 (by decide +kernel) (by decide +kernel)
theorem tw_17 : (Jvm.Cond.instanceMethod ({ cls := "PackSeeds", name := "<init>", desc := "(II)V" } : Jvm.MethodName)) ∈ Gall := gw 57 (by decide +kernel) (by decide +kernel)
theorem tw_18 : (Jvm.Cond.code ({ cls := "PackSeeds", name := "<init>", desc := "(II)V" } : Jvm.MethodName) prog_1_method_1_code (3 : Nat) (Option.none : Option Jvm.ClassFile.FieldType)) ∈ Gall := gw 58 (by decide +kernel) (by decide +kernel)
theorem tw_19 : (Jvm.Cond.methodLink "PackSeeds" (1 : Nat) ({ cls := "java/lang/Object", name := "<init>", desc := "()V" } : Jvm.MethodName)) ∈ Gall := gw 59 (by decide +kernel) (by decide +kernel)
theorem tw_20 : (Jvm.Cond.instanceMethod ({ cls := "java/lang/Object", name := "<init>", desc := "()V" } : Jvm.MethodName)) ∈ Gall := gw 60 (by decide +kernel) (by decide +kernel)
theorem tw_21 : (Jvm.Cond.code ({ cls := "java/lang/Object", name := "<init>", desc := "()V" } : Jvm.MethodName) object_method_1_code (1 : Nat) (Option.none : Option Jvm.ClassFile.FieldType)) ∈ Gall := gw 61 (by decide +kernel) (by decide +kernel)
theorem tw_22 : (Jvm.Cond.classLink "PackSeeds" (7 : Nat) "PackSeeds$Shape") ∈ Gall := gw 62 (by decide +kernel) (by decide +kernel)
theorem tw_23 : (Jvm.Cond.instantiable "PackSeeds$Shape" (2 : Nat)) ∈ Gall := gw 63 (by decide +kernel) (by decide +kernel)
theorem tw_25 : (Jvm.Cond.instanceMethod ({ cls := "PackSeeds$Shape", name := "<init>", desc := "(II)V" } : Jvm.MethodName)) ∈ Gall := gw 65 (by decide +kernel) (by decide +kernel)
theorem tw_26 : (Jvm.Cond.code ({ cls := "PackSeeds$Shape", name := "<init>", desc := "(II)V" } : Jvm.MethodName) prog_4_method_1_code (3 : Nat) (Option.none : Option Jvm.ClassFile.FieldType)) ∈ Gall := gw 66 (by decide +kernel) (by decide +kernel)
theorem tw_27 : (Jvm.Cond.methodLink "PackSeeds$Shape" (3 : Nat) ({ cls := "java/lang/Object", name := "<init>", desc := "()V" } : Jvm.MethodName)) ∈ Gall := gw 67 (by decide +kernel) (by decide +kernel)
theorem tw_28 : (Jvm.Cond.methodLink "PackSeeds$Shape" (9 : Nat) ({ cls := "java/lang/Math", name := "max", desc := "(II)I" } : Jvm.MethodName)) ∈ Gall := gw 68 (by decide +kernel) (by decide +kernel)
theorem tw_29 : (Jvm.Cond.static ({ cls := "java/lang/Math", name := "max", desc := "(II)I" } : Jvm.MethodName)) ∈ Gall := gw 69 (by decide +kernel) (by decide +kernel)
theorem tw_30 : (Jvm.Cond.code ({ cls := "java/lang/Math", name := "max", desc := "(II)I" } : Jvm.MethodName) prog_11_method_65_code (2 : Nat) (Option.some Jvm.ClassFile.FieldType.int)) ∈ Gall := gw 70 (by decide +kernel) (by decide +kernel)
theorem tw_31 : (Jvm.Cond.methodLink "PackSeeds$Shape" (15 : Nat) ({ cls := "java/lang/Math", name := "min", desc := "(II)I" } : Jvm.MethodName)) ∈ Gall := gw 71 (by decide +kernel) (by decide +kernel)
theorem tw_32 : (Jvm.Cond.static ({ cls := "java/lang/Math", name := "min", desc := "(II)I" } : Jvm.MethodName)) ∈ Gall := gw 72 (by decide +kernel) (by decide +kernel)
theorem tw_33 : (Jvm.Cond.code ({ cls := "java/lang/Math", name := "min", desc := "(II)I" } : Jvm.MethodName) prog_11_method_69_code (2 : Nat) (Option.some Jvm.ClassFile.FieldType.int)) ∈ Gall := gw 73 (by decide +kernel) (by decide +kernel)
theorem tw_34 : (Jvm.Cond.fieldLink "PackSeeds$Shape" (18 : Nat) "PackSeeds$Shape" "chains" "I") ∈ Gall := gw 74 (by decide +kernel) (by decide +kernel)
theorem tw_37 : (Jvm.Cond.fieldLink "PackSeeds$Shape" (24 : Nat) "PackSeeds$Shape" "cells" "I") ∈ Gall := gw 77 (by decide +kernel) (by decide +kernel)
theorem tw_40 : (Jvm.Cond.laysFinal "PackSeeds$Shape" "PackSeeds$Shape" "chains" "I") ∈ Gall := gw 80 (by decide +kernel) (by decide +kernel)
theorem tw_42 : (Jvm.Cond.laysFinal "PackSeeds$Shape" "PackSeeds$Shape" "cells" "I") ∈ Gall := gw 82 (by decide +kernel) (by decide +kernel)
theorem tw_45 : (Jvm.Cond.classLink "PackSeeds" (18 : Nat) "PackSeeds$Machine") ∈ Gall := gw 85 (by decide +kernel) (by decide +kernel)
theorem tw_46 : (Jvm.Cond.instantiable "PackSeeds$Machine" (4 : Nat)) ∈ Gall := gw 86 (by decide +kernel) (by decide +kernel)
theorem tw_48 : (Jvm.Cond.instanceMethod ({ cls := "PackSeeds$Machine", name := "<init>", desc := "(LPackSeeds$Shape;)V" } : Jvm.MethodName)) ∈ Gall := gw 88 (by decide +kernel) (by decide +kernel)
theorem tw_49 : (Jvm.Cond.code ({ cls := "PackSeeds$Machine", name := "<init>", desc := "(LPackSeeds$Shape;)V" } : Jvm.MethodName) prog_2_method_1_code (2 : Nat) (Option.none : Option Jvm.ClassFile.FieldType)) ∈ Gall := gw 89 (by decide +kernel) (by decide +kernel)
theorem tw_50 : (Jvm.Cond.methodLink "PackSeeds$Machine" (3 : Nat) ({ cls := "java/lang/Object", name := "<init>", desc := "()V" } : Jvm.MethodName)) ∈ Gall := gw 90 (by decide +kernel) (by decide +kernel)
theorem tw_51 : (Jvm.Cond.fieldLink "PackSeeds$Machine" (9 : Nat) "PackSeeds$Machine" "shape" "LPackSeeds$Shape;") ∈ Gall := gw 91 (by decide +kernel) (by decide +kernel)
theorem tw_52 : (Jvm.Cond.fieldLink "PackSeeds$Machine" (15 : Nat) "PackSeeds$Machine" "rows" "[J") ∈ Gall := gw 92 (by decide +kernel) (by decide +kernel)
theorem tw_53 : (Jvm.Cond.fieldLink "PackSeeds$Machine" (19 : Nat) "PackSeeds$Machine" "stages" "I") ∈ Gall := gw 93 (by decide +kernel) (by decide +kernel)
theorem tw_55 : (Jvm.Cond.fieldLink "PackSeeds$Machine" (23 : Nat) "PackSeeds$Machine" "taps" "I") ∈ Gall := gw 95 (by decide +kernel) (by decide +kernel)
theorem tw_56 : (Jvm.Cond.laysFinal "PackSeeds$Machine" "PackSeeds$Machine" "shape" "LPackSeeds$Shape;") ∈ Gall := gw 96 (by decide +kernel) (by decide +kernel)
theorem tw_58 : (Jvm.Cond.laysFinal "PackSeeds$Machine" "PackSeeds$Machine" "rows" "[J") ∈ Gall := gw 98 (by decide +kernel) (by decide +kernel)
theorem tw_60 : (Jvm.Cond.lays "PackSeeds$Machine" "PackSeeds$Machine" "stages" "I") ∈ Gall := gw 100 (by decide +kernel) (by decide +kernel)
theorem tw_62 : (Jvm.Cond.lays "PackSeeds$Machine" "PackSeeds$Machine" "taps" "I") ∈ Gall := gw 102 (by decide +kernel) (by decide +kernel)
theorem tw_65 : (Jvm.Cond.arrayClass Jvm.ClassFile.FieldType.long) ∈ Gall := gw 105 (by decide +kernel) (by decide +kernel)
theorem tw_66 : (Jvm.Cond.classLink "PackSeeds" (27 : Nat) "PackSeeds$Pattern") ∈ Gall := gw 106 (by decide +kernel) (by decide +kernel)
theorem tw_68 : (Jvm.Cond.fieldLink "PackSeeds" (12 : Nat) "PackSeeds" "shape" "LPackSeeds$Shape;") ∈ Gall := gw 108 (by decide +kernel) (by decide +kernel)
theorem tw_69 : (Jvm.Cond.fieldLink "PackSeeds" (23 : Nat) "PackSeeds" "machine" "LPackSeeds$Machine;") ∈ Gall := gw 109 (by decide +kernel) (by decide +kernel)
theorem tw_70 : (Jvm.Cond.fieldLink "PackSeeds" (29 : Nat) "PackSeeds" "patterns" "[LPackSeeds$Pattern;") ∈ Gall := gw 110 (by decide +kernel) (by decide +kernel)
theorem tw_71 : (Jvm.Cond.fieldLink "PackSeeds" (33 : Nat) "PackSeeds" "made" "I") ∈ Gall := gw 111 (by decide +kernel) (by decide +kernel)
theorem tw_72 : (Jvm.Cond.fieldLink "PackSeeds" (37 : Nat) "PackSeeds" "fillKind" "I") ∈ Gall := gw 112 (by decide +kernel) (by decide +kernel)
theorem tw_73 : (Jvm.Cond.laysFinal "PackSeeds" "PackSeeds" "shape" "LPackSeeds$Shape;") ∈ Gall := gw 113 (by decide +kernel) (by decide +kernel)
theorem tw_75 : (Jvm.Cond.laysFinal "PackSeeds" "PackSeeds" "machine" "LPackSeeds$Machine;") ∈ Gall := gw 115 (by decide +kernel) (by decide +kernel)
theorem tw_77 : (Jvm.Cond.laysFinal "PackSeeds" "PackSeeds" "patterns" "[LPackSeeds$Pattern;") ∈ Gall := gw 117 (by decide +kernel) (by decide +kernel)
theorem tw_79 : (Jvm.Cond.lays "PackSeeds" "PackSeeds" "made" "I") ∈ Gall := gw 119 (by decide +kernel) (by decide +kernel)
theorem tw_81 : (Jvm.Cond.lays "PackSeeds" "PackSeeds" "fillKind" "I") ∈ Gall := gw 121 (by decide +kernel) (by decide +kernel)
theorem tw_84 : (Jvm.Cond.methodLink "PackSeedsLaw" (94 : Nat) ({ cls := "PackSeeds", name := "join", desc := "()I" } : Jvm.MethodName)) ∈ Gall := gw 124 (by decide +kernel) (by decide +kernel)
theorem tw_85 : (Jvm.Cond.instanceMethod ({ cls := "PackSeeds", name := "join", desc := "()I" } : Jvm.MethodName)) ∈ Gall := gw 125 (by decide +kernel) (by decide +kernel)
theorem tw_86 : (Jvm.Cond.selects "PackSeeds" ({ cls := "PackSeeds", name := "join", desc := "()I" } : Jvm.MethodName) ({ cls := "PackSeeds", name := "join", desc := "()I" } : Jvm.MethodName)) ∈ Gall := gw 126 (by decide +kernel) (by decide +kernel)
theorem tw_87 : (Jvm.Cond.code ({ cls := "PackSeeds", name := "join", desc := "()I" } : Jvm.MethodName) prog_1_method_4_code (3 : Nat) (Option.some Jvm.ClassFile.FieldType.int)) ∈ Gall := gw 127 (by decide +kernel) (by decide +kernel)
theorem tw_88 : (Jvm.Cond.methodLink "PackSeeds" (65 : Nat) ({ cls := "PackSeeds", name := "presentOrNull", desc := "(I)LPackSeeds$Pattern;" } : Jvm.MethodName)) ∈ Gall := gw 128 (by decide +kernel) (by decide +kernel)
theorem tw_90 : (Jvm.Cond.instanceMethod ({ cls := "PackSeeds", name := "presentOrNull", desc := "(I)LPackSeeds$Pattern;" } : Jvm.MethodName)) ∈ Gall := gw 130 (by decide +kernel) (by decide +kernel)
theorem tw_91 : (Jvm.Cond.code ({ cls := "PackSeeds", name := "presentOrNull", desc := "(I)LPackSeeds$Pattern;" } : Jvm.MethodName) prog_1_method_20_code (3 : Nat) (Option.some (Jvm.ClassFile.FieldType.object "PackSeeds$Pattern"))) ∈ Gall := gw 131 (by decide +kernel) (by decide +kernel)
theorem tw_92 : (Jvm.Cond.methodLink "PackSeeds" (68 : Nat) ({ cls := "PackSeeds", name := "takeFromBehind", desc := "(LPackSeeds$Pattern;I)V" } : Jvm.MethodName)) ∈ Gall := gw 132 (by decide +kernel) (by decide +kernel)
theorem tw_94 : (Jvm.Cond.instanceMethod ({ cls := "PackSeeds", name := "takeFromBehind", desc := "(LPackSeeds$Pattern;I)V" } : Jvm.MethodName)) ∈ Gall := gw 134 (by decide +kernel) (by decide +kernel)
theorem tw_95 : (Jvm.Cond.code ({ cls := "PackSeeds", name := "takeFromBehind", desc := "(LPackSeeds$Pattern;I)V" } : Jvm.MethodName) prog_1_method_25_code (5 : Nat) (Option.none : Option Jvm.ClassFile.FieldType)) ∈ Gall := gw 135 (by decide +kernel) (by decide +kernel)
theorem tw_98 : (Jvm.Cond.instanceMethod ({ cls := "PackSeeds$Pattern", name := "goesWith", desc := "(LPackSeeds$Pattern;)Z" } : Jvm.MethodName)) ∈ Gall := gw 138 (by decide +kernel) (by decide +kernel)
theorem tw_99 : (Jvm.Cond.instantiable "PackSeeds$Pattern" (6 : Nat)) ∈ Gall := gw 139 (by decide +kernel) (by decide +kernel)
theorem tw_100 : (Jvm.Cond.code ({ cls := "PackSeeds$Pattern", name := "goesWith", desc := "(LPackSeeds$Pattern;)Z" } : Jvm.MethodName) prog_3_method_4_code (2 : Nat) (Option.some Jvm.ClassFile.FieldType.boolean)) ∈ Gall := gw 140 (by decide +kernel) (by decide +kernel)
theorem tw_103 : (Jvm.Cond.instanceMethod ({ cls := "PackSeeds$Pattern", name := "take", desc := "(LPackSeeds$Pattern;)V" } : Jvm.MethodName)) ∈ Gall := gw 143 (by decide +kernel) (by decide +kernel)
theorem tw_104 : (Jvm.Cond.code ({ cls := "PackSeeds$Pattern", name := "take", desc := "(LPackSeeds$Pattern;)V" } : Jvm.MethodName) prog_3_method_5_code (2 : Nat) (Option.none : Option Jvm.ClassFile.FieldType)) ∈ Gall := gw 144 (by decide +kernel) (by decide +kernel)
theorem tw_105 : (Jvm.Cond.methodLink "PackSeeds" (72 : Nat) ({ cls := "PackSeeds", name := "countPresent", desc := "()I" } : Jvm.MethodName)) ∈ Gall := gw 145 (by decide +kernel) (by decide +kernel)
theorem tw_107 : (Jvm.Cond.instanceMethod ({ cls := "PackSeeds", name := "countPresent", desc := "()I" } : Jvm.MethodName)) ∈ Gall := gw 147 (by decide +kernel) (by decide +kernel)
theorem tw_108 : (Jvm.Cond.code ({ cls := "PackSeeds", name := "countPresent", desc := "()I" } : Jvm.MethodName) prog_1_method_28_code (3 : Nat) (Option.some Jvm.ClassFile.FieldType.int)) ∈ Gall := gw 148 (by decide +kernel) (by decide +kernel)
theorem tw_109 : (Jvm.Cond.methodLink "PackSeedsLaw" (121 : Nat) ({ cls := "PackSeeds", name := "drop", desc := "()I" } : Jvm.MethodName)) ∈ Gall := gw 149 (by decide +kernel) (by decide +kernel)
theorem tw_110 : (Jvm.Cond.instanceMethod ({ cls := "PackSeeds", name := "drop", desc := "()I" } : Jvm.MethodName)) ∈ Gall := gw 150 (by decide +kernel) (by decide +kernel)
theorem tw_111 : (Jvm.Cond.selects "PackSeeds" ({ cls := "PackSeeds", name := "drop", desc := "()I" } : Jvm.MethodName) ({ cls := "PackSeeds", name := "drop", desc := "()I" } : Jvm.MethodName)) ∈ Gall := gw 151 (by decide +kernel) (by decide +kernel)
theorem tw_112 : (Jvm.Cond.code ({ cls := "PackSeeds", name := "drop", desc := "()I" } : Jvm.MethodName) prog_1_method_11_code (3 : Nat) (Option.some Jvm.ClassFile.FieldType.int)) ∈ Gall := gw 152 (by decide +kernel) (by decide +kernel)
theorem tw_113 : (Jvm.Cond.methodLink "PackSeeds" (125 : Nat) ({ cls := "PackSeeds", name := "faultsOfAllBut", desc := "(I)I" } : Jvm.MethodName)) ∈ Gall := gw 153 (by decide +kernel) (by decide +kernel)
theorem tw_115 : (Jvm.Cond.instanceMethod ({ cls := "PackSeeds", name := "faultsOfAllBut", desc := "(I)I" } : Jvm.MethodName)) ∈ Gall := gw 155 (by decide +kernel) (by decide +kernel)
theorem tw_116 : (Jvm.Cond.code ({ cls := "PackSeeds", name := "faultsOfAllBut", desc := "(I)I" } : Jvm.MethodName) prog_1_method_27_code (5 : Nat) (Option.some Jvm.ClassFile.FieldType.int)) ∈ Gall := gw 156 (by decide +kernel) (by decide +kernel)
theorem tw_117 : (Jvm.Cond.methodLink "PackSeedsLaw" (134 : Nat) ({ cls := "PackSeeds", name := "primitive", desc := "()Z" } : Jvm.MethodName)) ∈ Gall := gw 157 (by decide +kernel) (by decide +kernel)
theorem tw_118 : (Jvm.Cond.instanceMethod ({ cls := "PackSeeds", name := "primitive", desc := "()Z" } : Jvm.MethodName)) ∈ Gall := gw 158 (by decide +kernel) (by decide +kernel)
theorem tw_119 : (Jvm.Cond.selects "PackSeeds" ({ cls := "PackSeeds", name := "primitive", desc := "()Z" } : Jvm.MethodName) ({ cls := "PackSeeds", name := "primitive", desc := "()Z" } : Jvm.MethodName)) ∈ Gall := gw 159 (by decide +kernel) (by decide +kernel)
theorem tw_120 : (Jvm.Cond.code ({ cls := "PackSeeds", name := "primitive", desc := "()Z" } : Jvm.MethodName) prog_1_method_15_code (1 : Nat) (Option.some Jvm.ClassFile.FieldType.boolean)) ∈ Gall := gw 160 (by decide +kernel) (by decide +kernel)
theorem tw_123 : (Jvm.Cond.instanceMethod ({ cls := "PackSeeds$Machine", name := "hasLongestCycle", desc := "()Z" } : Jvm.MethodName)) ∈ Gall := gw 163 (by decide +kernel) (by decide +kernel)
theorem tw_124 : (Jvm.Cond.code ({ cls := "PackSeeds$Machine", name := "hasLongestCycle", desc := "()Z" } : Jvm.MethodName) prog_2_method_9_code (4 : Nat) (Option.some Jvm.ClassFile.FieldType.boolean)) ∈ Gall := gw 164 (by decide +kernel) (by decide +kernel)
theorem tw_125 : (Jvm.Cond.methodLink "PackSeeds$Machine" (47 : Nat) ({ cls := "PackSeeds$Machine", name := "step", desc := "(I)I" } : Jvm.MethodName)) ∈ Gall := gw 165 (by decide +kernel) (by decide +kernel)
theorem tw_127 : (Jvm.Cond.instanceMethod ({ cls := "PackSeeds$Machine", name := "step", desc := "(I)I" } : Jvm.MethodName)) ∈ Gall := gw 167 (by decide +kernel) (by decide +kernel)
theorem tw_128 : (Jvm.Cond.code ({ cls := "PackSeeds$Machine", name := "step", desc := "(I)I" } : Jvm.MethodName) prog_2_method_5_code (3 : Nat) (Option.some Jvm.ClassFile.FieldType.int)) ∈ Gall := gw 168 (by decide +kernel) (by decide +kernel)
theorem tw_129 : (Jvm.Cond.methodLink "PackSeeds$Machine" (26 : Nat) ({ cls := "java/lang/Integer", name := "bitCount", desc := "(I)I" } : Jvm.MethodName)) ∈ Gall := gw 169 (by decide +kernel) (by decide +kernel)
theorem tw_130 : (Jvm.Cond.static ({ cls := "java/lang/Integer", name := "bitCount", desc := "(I)I" } : Jvm.MethodName)) ∈ Gall := gw 170 (by decide +kernel) (by decide +kernel)
theorem tw_131 : (Jvm.Cond.code ({ cls := "java/lang/Integer", name := "bitCount", desc := "(I)I" } : Jvm.MethodName) prog_10_method_49_code (1 : Nat) (Option.some Jvm.ClassFile.FieldType.int)) ∈ Gall := gw 171 (by decide +kernel) (by decide +kernel)
theorem tw_132 : (Jvm.Cond.constant "java/lang/Integer" (265 : Nat) (1431655765 : Int32)) ∈ Gall := gw 172 (by decide +kernel) (by decide +kernel)
theorem tw_133 : (Jvm.Cond.constant "java/lang/Integer" (266 : Nat) (858993459 : Int32)) ∈ Gall := gw 173 (by decide +kernel) (by decide +kernel)
theorem tw_134 : (Jvm.Cond.constant "java/lang/Integer" (267 : Nat) (252645135 : Int32)) ∈ Gall := gw 174 (by decide +kernel) (by decide +kernel)
theorem tw_135 : (Jvm.Cond.methodLink "PackSeedsLaw" (71 : Nat) ({ cls := "PackSeedsLaw", name := "cell", desc := "([II)I" } : Jvm.MethodName)) ∈ Gall := gw 175 (by decide +kernel) (by decide +kernel)
theorem tw_136 : (Jvm.Cond.static ({ cls := "PackSeedsLaw", name := "cell", desc := "([II)I" } : Jvm.MethodName)) ∈ Gall := gw 176 (by decide +kernel) (by decide +kernel)
theorem tw_137 : (Jvm.Cond.code ({ cls := "PackSeedsLaw", name := "cell", desc := "([II)I" } : Jvm.MethodName) method_2_code (2 : Nat) (Option.some Jvm.ClassFile.FieldType.int)) ∈ Gall := gw 177 (by decide +kernel) (by decide +kernel)
theorem tw_138 : (Jvm.Cond.methodLink "PackSeedsLaw" (83 : Nat) ({ cls := "PackSeedsLaw", name := "pattern", desc := "(LPackSeeds;[J)I" } : Jvm.MethodName)) ∈ Gall := gw 178 (by decide +kernel) (by decide +kernel)
theorem tw_139 : (Jvm.Cond.static ({ cls := "PackSeedsLaw", name := "pattern", desc := "(LPackSeeds;[J)I" } : Jvm.MethodName)) ∈ Gall := gw 179 (by decide +kernel) (by decide +kernel)
theorem tw_140 : (Jvm.Cond.codeWith ({ cls := "PackSeedsLaw", name := "pattern", desc := "(LPackSeeds;[J)I" } : Jvm.MethodName) method_3_code (3 : Nat) (Option.some Jvm.ClassFile.FieldType.int) [((0 : Nat), (8 : Nat), (11 : Nat), (13 : Nat))]) ∈ Gall := gw 180 (by decide +kernel) (by decide +kernel)
theorem tw_141 : (Jvm.Cond.classLink "PackSeedsLaw" (13 : Nat) "java/lang/UnsupportedOperationException") ∈ Gall := gw 181 (by decide +kernel) (by decide +kernel)
theorem tw_142 : (Jvm.Cond.methodLink "PackSeedsLaw" (7 : Nat) ({ cls := "PackSeeds", name := "pattern", desc := "()I" } : Jvm.MethodName)) ∈ Gall := gw 182 (by decide +kernel) (by decide +kernel)
theorem tw_143 : (Jvm.Cond.instanceMethod ({ cls := "PackSeeds", name := "pattern", desc := "()I" } : Jvm.MethodName)) ∈ Gall := gw 183 (by decide +kernel) (by decide +kernel)
theorem tw_144 : (Jvm.Cond.selects "PackSeeds" ({ cls := "PackSeeds", name := "pattern", desc := "()I" } : Jvm.MethodName) ({ cls := "PackSeeds", name := "pattern", desc := "()I" } : Jvm.MethodName)) ∈ Gall := gw 184 (by decide +kernel) (by decide +kernel)
theorem tw_145 : (Jvm.Cond.code ({ cls := "PackSeeds", name := "pattern", desc := "()I" } : Jvm.MethodName) prog_1_method_2_code (2 : Nat) (Option.some Jvm.ClassFile.FieldType.int)) ∈ Gall := gw 185 (by decide +kernel) (by decide +kernel)
theorem tw_146 : (Jvm.Cond.classLink "PackSeeds" (40 : Nat) "java/lang/UnsupportedOperationException") ∈ Gall := gw 186 (by decide +kernel) (by decide +kernel)
theorem tw_147 : (Jvm.Cond.instantiable "java/lang/UnsupportedOperationException" (6 : Nat)) ∈ Gall := gw 187 (by decide +kernel) (by decide +kernel)
theorem tw_155 : (Jvm.Cond.selects "java/lang/UnsupportedOperationException" ({ cls := "java/lang/Throwable", name := "fillInStackTrace", desc := "(I)Ljava/lang/Throwable;" } : Jvm.MethodName) ({ cls := "java/lang/Throwable", name := "fillInStackTrace", desc := "(I)Ljava/lang/Throwable;" } : Jvm.MethodName)) ∈ Gall := gw 195 (by decide +kernel) (by decide +kernel)
theorem tw_156 : (Jvm.Cond.selects "java/lang/UnsupportedOperationException" ({ cls := "java/lang/Throwable", name := "fillInStackTrace", desc := "()Ljava/lang/Throwable;" } : Jvm.MethodName) ({ cls := "java/lang/Throwable", name := "fillInStackTrace", desc := "()Ljava/lang/Throwable;" } : Jvm.MethodName)) ∈ Gall := gw 196 (by decide +kernel) (by decide +kernel)
theorem tw_157 : (Jvm.Cond.lays "java/lang/UnsupportedOperationException" "java/lang/Throwable" "cause" "Ljava/lang/Throwable;") ∈ Gall := gw 197 (by decide +kernel) (by decide +kernel)
theorem tw_158 : (Jvm.Cond.lays "java/lang/Throwable" "java/lang/Throwable" "cause" "Ljava/lang/Throwable;") ∈ Gall := gw 198 (by decide +kernel) (by decide +kernel)
theorem tw_159 : (Jvm.Cond.lays "java/lang/UnsupportedOperationException" "java/lang/Throwable" "stackTrace" "[Ljava/lang/StackTraceElement;") ∈ Gall := gw 199 (by decide +kernel) (by decide +kernel)
theorem tw_160 : (Jvm.Cond.lays "java/lang/Throwable" "java/lang/Throwable" "stackTrace" "[Ljava/lang/StackTraceElement;") ∈ Gall := gw 200 (by decide +kernel) (by decide +kernel)
theorem tw_161 : (Jvm.Cond.lays "java/lang/UnsupportedOperationException" "java/lang/Throwable" "suppressedExceptions" "Ljava/util/List;") ∈ Gall := gw 201 (by decide +kernel) (by decide +kernel)
theorem tw_162 : (Jvm.Cond.lays "java/lang/Throwable" "java/lang/Throwable" "suppressedExceptions" "Ljava/util/List;") ∈ Gall := gw 202 (by decide +kernel) (by decide +kernel)
theorem tw_163 : (Jvm.Cond.lays "java/lang/UnsupportedOperationException" "java/lang/Throwable" "detailMessage" "Ljava/lang/String;") ∈ Gall := gw 203 (by decide +kernel) (by decide +kernel)
theorem tw_164 : (Jvm.Cond.lays "java/lang/Throwable" "java/lang/Throwable" "detailMessage" "Ljava/lang/String;") ∈ Gall := gw 204 (by decide +kernel) (by decide +kernel)
theorem tw_165 : (Jvm.Cond.lays "java/lang/UnsupportedOperationException" "java/lang/Throwable" "backtrace" "Ljava/lang/Object;") ∈ Gall := gw 205 (by decide +kernel) (by decide +kernel)
theorem tw_166 : (Jvm.Cond.lays "java/lang/Throwable" "java/lang/Throwable" "backtrace" "Ljava/lang/Object;") ∈ Gall := gw 206 (by decide +kernel) (by decide +kernel)
theorem tw_167 : (Jvm.Cond.fieldLink "java/lang/Throwable" (198 : Nat) "java/lang/Throwable" "backtrace" "Ljava/lang/Object;") ∈ Gall := gw 207 (by decide +kernel) (by decide +kernel)
theorem tw_169 : (Jvm.Cond.instanceMethod ({ cls := "java/lang/Throwable", name := "<init>", desc := "()V" } : Jvm.MethodName)) ∈ Gall := gw 209 (by decide +kernel) (by decide +kernel)
theorem tw_170 : (Jvm.Cond.code ({ cls := "java/lang/Throwable", name := "<init>", desc := "()V" } : Jvm.MethodName) prog_14_method_1_code (1 : Nat) (Option.none : Option Jvm.ClassFile.FieldType)) ∈ Gall := gw 210 (by decide +kernel) (by decide +kernel)
theorem tw_171 : (Jvm.Cond.methodLink "java/lang/Throwable" (1 : Nat) ({ cls := "java/lang/Object", name := "<init>", desc := "()V" } : Jvm.MethodName)) ∈ Gall := gw 211 (by decide +kernel) (by decide +kernel)
theorem tw_172 : (Jvm.Cond.fieldLink "java/lang/Throwable" (13 : Nat) "java/lang/Throwable" "UNASSIGNED_STACK" "[Ljava/lang/StackTraceElement;") ∈ Gall := gw 212 (by decide +kernel) (by decide +kernel)
theorem tw_174 : (Jvm.Cond.fieldLink "java/lang/Throwable" (20 : Nat) "java/lang/Throwable" "SUPPRESSED_SENTINEL" "Ljava/util/List;") ∈ Gall := gw 214 (by decide +kernel) (by decide +kernel)
theorem tw_176 : (Jvm.Cond.methodLink "java/lang/Throwable" (27 : Nat) ({ cls := "java/lang/Throwable", name := "fillInStackTrace", desc := "()Ljava/lang/Throwable;" } : Jvm.MethodName)) ∈ Gall := gw 216 (by decide +kernel) (by decide +kernel)
theorem tw_177 : (Jvm.Cond.instanceMethod ({ cls := "java/lang/Throwable", name := "fillInStackTrace", desc := "()Ljava/lang/Throwable;" } : Jvm.MethodName)) ∈ Gall := gw 217 (by decide +kernel) (by decide +kernel)
theorem tw_179 : (Jvm.Cond.selects "java/lang/IllegalArgumentException" ({ cls := "java/lang/Throwable", name := "fillInStackTrace", desc := "()Ljava/lang/Throwable;" } : Jvm.MethodName) ({ cls := "java/lang/Throwable", name := "fillInStackTrace", desc := "()Ljava/lang/Throwable;" } : Jvm.MethodName)) ∈ Gall := gw 219 (by decide +kernel) (by decide +kernel)
theorem tw_180 : (Jvm.Cond.selects "java/lang/IndexOutOfBoundsException" ({ cls := "java/lang/Throwable", name := "fillInStackTrace", desc := "()Ljava/lang/Throwable;" } : Jvm.MethodName) ({ cls := "java/lang/Throwable", name := "fillInStackTrace", desc := "()Ljava/lang/Throwable;" } : Jvm.MethodName)) ∈ Gall := gw 220 (by decide +kernel) (by decide +kernel)
theorem tw_182 : (Jvm.Cond.methodLink "java/lang/Throwable" (202 : Nat) ({ cls := "java/lang/Throwable", name := "fillInStackTrace", desc := "(I)Ljava/lang/Throwable;" } : Jvm.MethodName)) ∈ Gall := gw 222 (by decide +kernel) (by decide +kernel)
theorem tw_184 : (Jvm.Cond.instanceMethod ({ cls := "java/lang/Throwable", name := "fillInStackTrace", desc := "(I)Ljava/lang/Throwable;" } : Jvm.MethodName)) ∈ Gall := gw 224 (by decide +kernel) (by decide +kernel)
theorem tw_185 : (Jvm.Cond.instantiable "java/lang/Throwable" (6 : Nat)) ∈ Gall := gw 225 (by decide +kernel) (by decide +kernel)
theorem tw_188 : (Jvm.Cond.methodLink "PackSeeds" (44 : Nat) ({ cls := "java/lang/UnsupportedOperationException", name := "<init>", desc := "(Ljava/lang/String;)V" } : Jvm.MethodName)) ∈ Gall := gw 228 (by decide +kernel) (by decide +kernel)
theorem tw_189 : (Jvm.Cond.instanceMethod ({ cls := "java/lang/UnsupportedOperationException", name := "<init>", desc := "(Ljava/lang/String;)V" } : Jvm.MethodName)) ∈ Gall := gw 229 (by decide +kernel) (by decide +kernel)
theorem tw_190 : (Jvm.Cond.code ({ cls := "java/lang/UnsupportedOperationException", name := "<init>", desc := "(Ljava/lang/String;)V" } : Jvm.MethodName) prog_15_method_2_code (2 : Nat) (Option.none : Option Jvm.ClassFile.FieldType)) ∈ Gall := gw 230 (by decide +kernel) (by decide +kernel)
theorem tw_191 : (Jvm.Cond.methodLink "java/lang/UnsupportedOperationException" (7 : Nat) ({ cls := "java/lang/RuntimeException", name := "<init>", desc := "(Ljava/lang/String;)V" } : Jvm.MethodName)) ∈ Gall := gw 231 (by decide +kernel) (by decide +kernel)
theorem tw_192 : (Jvm.Cond.instanceMethod ({ cls := "java/lang/RuntimeException", name := "<init>", desc := "(Ljava/lang/String;)V" } : Jvm.MethodName)) ∈ Gall := gw 232 (by decide +kernel) (by decide +kernel)
theorem tw_193 : (Jvm.Cond.code ({ cls := "java/lang/RuntimeException", name := "<init>", desc := "(Ljava/lang/String;)V" } : Jvm.MethodName) prog_12_method_2_code (2 : Nat) (Option.none : Option Jvm.ClassFile.FieldType)) ∈ Gall := gw 233 (by decide +kernel) (by decide +kernel)
theorem tw_194 : (Jvm.Cond.methodLink "java/lang/RuntimeException" (7 : Nat) ({ cls := "java/lang/Exception", name := "<init>", desc := "(Ljava/lang/String;)V" } : Jvm.MethodName)) ∈ Gall := gw 234 (by decide +kernel) (by decide +kernel)
theorem tw_195 : (Jvm.Cond.instanceMethod ({ cls := "java/lang/Exception", name := "<init>", desc := "(Ljava/lang/String;)V" } : Jvm.MethodName)) ∈ Gall := gw 235 (by decide +kernel) (by decide +kernel)
theorem tw_196 : (Jvm.Cond.code ({ cls := "java/lang/Exception", name := "<init>", desc := "(Ljava/lang/String;)V" } : Jvm.MethodName) prog_7_method_2_code (2 : Nat) (Option.none : Option Jvm.ClassFile.FieldType)) ∈ Gall := gw 236 (by decide +kernel) (by decide +kernel)
theorem tw_197 : (Jvm.Cond.methodLink "java/lang/Exception" (7 : Nat) ({ cls := "java/lang/Throwable", name := "<init>", desc := "(Ljava/lang/String;)V" } : Jvm.MethodName)) ∈ Gall := gw 237 (by decide +kernel) (by decide +kernel)
theorem tw_198 : (Jvm.Cond.instanceMethod ({ cls := "java/lang/Throwable", name := "<init>", desc := "(Ljava/lang/String;)V" } : Jvm.MethodName)) ∈ Gall := gw 238 (by decide +kernel) (by decide +kernel)
theorem tw_199 : (Jvm.Cond.code ({ cls := "java/lang/Throwable", name := "<init>", desc := "(Ljava/lang/String;)V" } : Jvm.MethodName) prog_14_method_2_code (2 : Nat) (Option.none : Option Jvm.ClassFile.FieldType)) ∈ Gall := gw 239 (by decide +kernel) (by decide +kernel)
theorem tw_201 : (Jvm.Cond.fieldLink "java/lang/Throwable" (31 : Nat) "java/lang/Throwable" "detailMessage" "Ljava/lang/String;") ∈ Gall := gw 241 (by decide +kernel) (by decide +kernel)
theorem tw_202 : (Jvm.Cond.fieldLink "java/lang/Throwable" (7 : Nat) "java/lang/Throwable" "cause" "Ljava/lang/Throwable;") ∈ Gall := gw 242 (by decide +kernel) (by decide +kernel)
theorem tw_203 : (Jvm.Cond.fieldLink "java/lang/Throwable" (17 : Nat) "java/lang/Throwable" "stackTrace" "[Ljava/lang/StackTraceElement;") ∈ Gall := gw 243 (by decide +kernel) (by decide +kernel)
theorem tw_204 : (Jvm.Cond.fieldLink "java/lang/Throwable" (24 : Nat) "java/lang/Throwable" "suppressedExceptions" "Ljava/util/List;") ∈ Gall := gw 244 (by decide +kernel) (by decide +kernel)
theorem tw_209 : (Jvm.Cond.lays "java/lang/UnsupportedOperationException" "java/lang/Throwable" "depth" "I") ∈ Gall := gw 249 (by decide +kernel) (by decide +kernel)
theorem tw_213 : (Jvm.Cond.arrayClass Jvm.ClassFile.FieldType.byte) ∈ Gall := gw 253 (by decide +kernel) (by decide +kernel)
theorem tw_215 : (Jvm.Cond.instanceMethod ({ cls := "PackSeeds$Pattern", name := "<init>", desc := "()V" } : Jvm.MethodName)) ∈ Gall := gw 255 (by decide +kernel) (by decide +kernel)
theorem tw_216 : (Jvm.Cond.code ({ cls := "PackSeeds$Pattern", name := "<init>", desc := "()V" } : Jvm.MethodName) prog_3_method_1_code (1 : Nat) (Option.none : Option Jvm.ClassFile.FieldType)) ∈ Gall := gw 256 (by decide +kernel) (by decide +kernel)
theorem tw_217 : (Jvm.Cond.methodLink "PackSeeds$Pattern" (3 : Nat) ({ cls := "java/lang/Object", name := "<init>", desc := "()V" } : Jvm.MethodName)) ∈ Gall := gw 257 (by decide +kernel) (by decide +kernel)
theorem tw_218 : (Jvm.Cond.fieldLink "PackSeeds$Pattern" (9 : Nat) "PackSeeds$Pattern" "cared" "I") ∈ Gall := gw 258 (by decide +kernel) (by decide +kernel)
theorem tw_220 : (Jvm.Cond.fieldLink "PackSeeds$Pattern" (15 : Nat) "PackSeeds$Pattern" "values" "I") ∈ Gall := gw 260 (by decide +kernel) (by decide +kernel)
theorem tw_222 : (Jvm.Cond.fieldLink "PackSeeds$Pattern" (18 : Nat) "PackSeeds$Pattern" "masked" "I") ∈ Gall := gw 262 (by decide +kernel) (by decide +kernel)
theorem tw_224 : (Jvm.Cond.fieldLink "PackSeeds$Pattern" (21 : Nat) "PackSeeds$Pattern" "faults" "I") ∈ Gall := gw 264 (by decide +kernel) (by decide +kernel)
theorem tw_226 : (Jvm.Cond.fieldLink "PackSeeds$Pattern" (24 : Nat) "PackSeeds$Pattern" "seed" "I") ∈ Gall := gw 266 (by decide +kernel) (by decide +kernel)
theorem tw_228 : (Jvm.Cond.fieldLink "PackSeeds$Pattern" (27 : Nat) "PackSeeds$Pattern" "gone" "Z") ∈ Gall := gw 268 (by decide +kernel) (by decide +kernel)
theorem tw_230 : (Jvm.Cond.lays "PackSeeds$Pattern" "PackSeeds$Pattern" "cared" "I") ∈ Gall := gw 270 (by decide +kernel) (by decide +kernel)
theorem tw_232 : (Jvm.Cond.lays "PackSeeds$Pattern" "PackSeeds$Pattern" "values" "I") ∈ Gall := gw 272 (by decide +kernel) (by decide +kernel)
theorem tw_234 : (Jvm.Cond.lays "PackSeeds$Pattern" "PackSeeds$Pattern" "masked" "I") ∈ Gall := gw 274 (by decide +kernel) (by decide +kernel)
theorem tw_236 : (Jvm.Cond.lays "PackSeeds$Pattern" "PackSeeds$Pattern" "faults" "I") ∈ Gall := gw 276 (by decide +kernel) (by decide +kernel)
theorem tw_238 : (Jvm.Cond.lays "PackSeeds$Pattern" "PackSeeds$Pattern" "seed" "I") ∈ Gall := gw 278 (by decide +kernel) (by decide +kernel)
theorem tw_240 : (Jvm.Cond.lays "PackSeeds$Pattern" "PackSeeds$Pattern" "gone" "Z") ∈ Gall := gw 280 (by decide +kernel) (by decide +kernel)
theorem tw_243 : (Jvm.Cond.methodLink "PackSeedsLaw" (90 : Nat) ({ cls := "PackSeedsLaw", name := "care", desc := "(LPackSeeds;IIII[J)I" } : Jvm.MethodName)) ∈ Gall := gw 283 (by decide +kernel) (by decide +kernel)
theorem tw_244 : (Jvm.Cond.static ({ cls := "PackSeedsLaw", name := "care", desc := "(LPackSeeds;IIII[J)I" } : Jvm.MethodName)) ∈ Gall := gw 284 (by decide +kernel) (by decide +kernel)
theorem tw_245 : (Jvm.Cond.codeWith ({ cls := "PackSeedsLaw", name := "care", desc := "(LPackSeeds;IIII[J)I" } : Jvm.MethodName) method_4_code (7 : Nat) (Option.some Jvm.ClassFile.FieldType.int) [((0 : Nat), (21 : Nat), (24 : Nat), (19 : Nat)), ((0 : Nat), (21 : Nat), (28 : Nat), (21 : Nat))]) ∈ Gall := gw 285 (by decide +kernel) (by decide +kernel)
theorem tw_246 : (Jvm.Cond.classLink "PackSeedsLaw" (19 : Nat) "java/lang/IndexOutOfBoundsException") ∈ Gall := gw 286 (by decide +kernel) (by decide +kernel)
theorem tw_247 : (Jvm.Cond.classLink "PackSeedsLaw" (21 : Nat) "java/lang/IllegalArgumentException") ∈ Gall := gw 287 (by decide +kernel) (by decide +kernel)
theorem tw_248 : (Jvm.Cond.methodLink "PackSeedsLaw" (15 : Nat) ({ cls := "PackSeeds", name := "care", desc := "(IIII)Z" } : Jvm.MethodName)) ∈ Gall := gw 288 (by decide +kernel) (by decide +kernel)
theorem tw_249 : (Jvm.Cond.instanceMethod ({ cls := "PackSeeds", name := "care", desc := "(IIII)Z" } : Jvm.MethodName)) ∈ Gall := gw 289 (by decide +kernel) (by decide +kernel)
theorem tw_250 : (Jvm.Cond.selects "PackSeeds" ({ cls := "PackSeeds", name := "care", desc := "(IIII)Z" } : Jvm.MethodName) ({ cls := "PackSeeds", name := "care", desc := "(IIII)Z" } : Jvm.MethodName)) ∈ Gall := gw 290 (by decide +kernel) (by decide +kernel)
theorem tw_251 : (Jvm.Cond.code ({ cls := "PackSeeds", name := "care", desc := "(IIII)Z" } : Jvm.MethodName) prog_1_method_3_code (7 : Nat) (Option.some Jvm.ClassFile.FieldType.boolean)) ∈ Gall := gw 291 (by decide +kernel) (by decide +kernel)
theorem tw_252 : (Jvm.Cond.methodLink "PackSeeds" (48 : Nat) ({ cls := "PackSeeds", name := "present", desc := "(I)LPackSeeds$Pattern;" } : Jvm.MethodName)) ∈ Gall := gw 292 (by decide +kernel) (by decide +kernel)
theorem tw_254 : (Jvm.Cond.instanceMethod ({ cls := "PackSeeds", name := "present", desc := "(I)LPackSeeds$Pattern;" } : Jvm.MethodName)) ∈ Gall := gw 294 (by decide +kernel) (by decide +kernel)
theorem tw_255 : (Jvm.Cond.code ({ cls := "PackSeeds", name := "present", desc := "(I)LPackSeeds$Pattern;" } : Jvm.MethodName) prog_1_method_21_code (3 : Nat) (Option.some (Jvm.ClassFile.FieldType.object "PackSeeds$Pattern"))) ∈ Gall := gw 295 (by decide +kernel) (by decide +kernel)
theorem tw_256 : (Jvm.Cond.classLink "PackSeeds" (88 : Nat) "java/lang/IndexOutOfBoundsException") ∈ Gall := gw 296 (by decide +kernel) (by decide +kernel)
theorem tw_257 : (Jvm.Cond.instantiable "java/lang/IndexOutOfBoundsException" (6 : Nat)) ∈ Gall := gw 297 (by decide +kernel) (by decide +kernel)
theorem tw_259 : (Jvm.Cond.selects "java/lang/IndexOutOfBoundsException" ({ cls := "java/lang/Throwable", name := "fillInStackTrace", desc := "(I)Ljava/lang/Throwable;" } : Jvm.MethodName) ({ cls := "java/lang/Throwable", name := "fillInStackTrace", desc := "(I)Ljava/lang/Throwable;" } : Jvm.MethodName)) ∈ Gall := gw 299 (by decide +kernel) (by decide +kernel)
theorem tw_260 : (Jvm.Cond.lays "java/lang/IndexOutOfBoundsException" "java/lang/Throwable" "cause" "Ljava/lang/Throwable;") ∈ Gall := gw 300 (by decide +kernel) (by decide +kernel)
theorem tw_261 : (Jvm.Cond.lays "java/lang/IndexOutOfBoundsException" "java/lang/Throwable" "stackTrace" "[Ljava/lang/StackTraceElement;") ∈ Gall := gw 301 (by decide +kernel) (by decide +kernel)
theorem tw_262 : (Jvm.Cond.lays "java/lang/IndexOutOfBoundsException" "java/lang/Throwable" "suppressedExceptions" "Ljava/util/List;") ∈ Gall := gw 302 (by decide +kernel) (by decide +kernel)
theorem tw_263 : (Jvm.Cond.lays "java/lang/IndexOutOfBoundsException" "java/lang/Throwable" "detailMessage" "Ljava/lang/String;") ∈ Gall := gw 303 (by decide +kernel) (by decide +kernel)
theorem tw_264 : (Jvm.Cond.lays "java/lang/IndexOutOfBoundsException" "java/lang/Throwable" "backtrace" "Ljava/lang/Object;") ∈ Gall := gw 304 (by decide +kernel) (by decide +kernel)
theorem tw_266 : (Jvm.Cond.methodLink "PackSeeds" (92 : Nat) ({ cls := "java/lang/IndexOutOfBoundsException", name := "<init>", desc := "(Ljava/lang/String;)V" } : Jvm.MethodName)) ∈ Gall := gw 306 (by decide +kernel) (by decide +kernel)
theorem tw_267 : (Jvm.Cond.instanceMethod ({ cls := "java/lang/IndexOutOfBoundsException", name := "<init>", desc := "(Ljava/lang/String;)V" } : Jvm.MethodName)) ∈ Gall := gw 307 (by decide +kernel) (by decide +kernel)
theorem tw_268 : (Jvm.Cond.code ({ cls := "java/lang/IndexOutOfBoundsException", name := "<init>", desc := "(Ljava/lang/String;)V" } : Jvm.MethodName) prog_9_method_2_code (2 : Nat) (Option.none : Option Jvm.ClassFile.FieldType)) ∈ Gall := gw 308 (by decide +kernel) (by decide +kernel)
theorem tw_269 : (Jvm.Cond.methodLink "java/lang/IndexOutOfBoundsException" (7 : Nat) ({ cls := "java/lang/RuntimeException", name := "<init>", desc := "(Ljava/lang/String;)V" } : Jvm.MethodName)) ∈ Gall := gw 309 (by decide +kernel) (by decide +kernel)
theorem tw_270 : (Jvm.Cond.lays "java/lang/IndexOutOfBoundsException" "java/lang/Throwable" "depth" "I") ∈ Gall := gw 310 (by decide +kernel) (by decide +kernel)
theorem tw_272 : (Jvm.Cond.methodLink "PackSeeds" (52 : Nat) ({ cls := "PackSeeds", name := "existingPlace", desc := "(II)I" } : Jvm.MethodName)) ∈ Gall := gw 312 (by decide +kernel) (by decide +kernel)
theorem tw_274 : (Jvm.Cond.instanceMethod ({ cls := "PackSeeds", name := "existingPlace", desc := "(II)I" } : Jvm.MethodName)) ∈ Gall := gw 314 (by decide +kernel) (by decide +kernel)
theorem tw_275 : (Jvm.Cond.code ({ cls := "PackSeeds", name := "existingPlace", desc := "(II)I" } : Jvm.MethodName) prog_1_method_22_code (3 : Nat) (Option.some Jvm.ClassFile.FieldType.int)) ∈ Gall := gw 315 (by decide +kernel) (by decide +kernel)
theorem tw_277 : (Jvm.Cond.methodLink "PackSeeds" (168 : Nat) ({ cls := "PackSeeds", name := "place", desc := "(II)I" } : Jvm.MethodName)) ∈ Gall := gw 317 (by decide +kernel) (by decide +kernel)
theorem tw_278 : (Jvm.Cond.static ({ cls := "PackSeeds", name := "place", desc := "(II)I" } : Jvm.MethodName)) ∈ Gall := gw 318 (by decide +kernel) (by decide +kernel)
theorem tw_279 : (Jvm.Cond.code ({ cls := "PackSeeds", name := "place", desc := "(II)I" } : Jvm.MethodName) prog_1_method_24_code (2 : Nat) (Option.some Jvm.ClassFile.FieldType.int)) ∈ Gall := gw 319 (by decide +kernel) (by decide +kernel)
theorem tw_280 : (Jvm.Cond.classLink "PackSeeds" (56 : Nat) "java/lang/IllegalArgumentException") ∈ Gall := gw 320 (by decide +kernel) (by decide +kernel)
theorem tw_281 : (Jvm.Cond.instantiable "java/lang/IllegalArgumentException" (6 : Nat)) ∈ Gall := gw 321 (by decide +kernel) (by decide +kernel)
theorem tw_283 : (Jvm.Cond.selects "java/lang/IllegalArgumentException" ({ cls := "java/lang/Throwable", name := "fillInStackTrace", desc := "(I)Ljava/lang/Throwable;" } : Jvm.MethodName) ({ cls := "java/lang/Throwable", name := "fillInStackTrace", desc := "(I)Ljava/lang/Throwable;" } : Jvm.MethodName)) ∈ Gall := gw 323 (by decide +kernel) (by decide +kernel)
theorem tw_284 : (Jvm.Cond.lays "java/lang/IllegalArgumentException" "java/lang/Throwable" "cause" "Ljava/lang/Throwable;") ∈ Gall := gw 324 (by decide +kernel) (by decide +kernel)
theorem tw_285 : (Jvm.Cond.lays "java/lang/IllegalArgumentException" "java/lang/Throwable" "stackTrace" "[Ljava/lang/StackTraceElement;") ∈ Gall := gw 325 (by decide +kernel) (by decide +kernel)
theorem tw_286 : (Jvm.Cond.lays "java/lang/IllegalArgumentException" "java/lang/Throwable" "suppressedExceptions" "Ljava/util/List;") ∈ Gall := gw 326 (by decide +kernel) (by decide +kernel)
theorem tw_287 : (Jvm.Cond.lays "java/lang/IllegalArgumentException" "java/lang/Throwable" "detailMessage" "Ljava/lang/String;") ∈ Gall := gw 327 (by decide +kernel) (by decide +kernel)
theorem tw_288 : (Jvm.Cond.lays "java/lang/IllegalArgumentException" "java/lang/Throwable" "backtrace" "Ljava/lang/Object;") ∈ Gall := gw 328 (by decide +kernel) (by decide +kernel)
theorem tw_290 : (Jvm.Cond.methodLink "PackSeeds" (60 : Nat) ({ cls := "java/lang/IllegalArgumentException", name := "<init>", desc := "(Ljava/lang/String;)V" } : Jvm.MethodName)) ∈ Gall := gw 330 (by decide +kernel) (by decide +kernel)
theorem tw_291 : (Jvm.Cond.instanceMethod ({ cls := "java/lang/IllegalArgumentException", name := "<init>", desc := "(Ljava/lang/String;)V" } : Jvm.MethodName)) ∈ Gall := gw 331 (by decide +kernel) (by decide +kernel)
theorem tw_292 : (Jvm.Cond.code ({ cls := "java/lang/IllegalArgumentException", name := "<init>", desc := "(Ljava/lang/String;)V" } : Jvm.MethodName) prog_8_method_2_code (2 : Nat) (Option.none : Option Jvm.ClassFile.FieldType)) ∈ Gall := gw 332 (by decide +kernel) (by decide +kernel)
theorem tw_293 : (Jvm.Cond.methodLink "java/lang/IllegalArgumentException" (7 : Nat) ({ cls := "java/lang/RuntimeException", name := "<init>", desc := "(Ljava/lang/String;)V" } : Jvm.MethodName)) ∈ Gall := gw 333 (by decide +kernel) (by decide +kernel)
theorem tw_294 : (Jvm.Cond.lays "java/lang/IllegalArgumentException" "java/lang/Throwable" "depth" "I") ∈ Gall := gw 334 (by decide +kernel) (by decide +kernel)
theorem tw_298 : (Jvm.Cond.instanceMethod ({ cls := "PackSeeds$Pattern", name := "setCare", desc := "(II)Z" } : Jvm.MethodName)) ∈ Gall := gw 338 (by decide +kernel) (by decide +kernel)
theorem tw_299 : (Jvm.Cond.code ({ cls := "PackSeeds$Pattern", name := "setCare", desc := "(II)Z" } : Jvm.MethodName) prog_3_method_3_code (3 : Nat) (Option.some Jvm.ClassFile.FieldType.boolean)) ∈ Gall := gw 339 (by decide +kernel) (by decide +kernel)
theorem tw_300 : (Jvm.Cond.methodLink "PackSeeds$Pattern" (31 : Nat) ({ cls := "PackSeeds$Pattern", name := "careAt", desc := "(I)I" } : Jvm.MethodName)) ∈ Gall := gw 340 (by decide +kernel) (by decide +kernel)
theorem tw_302 : (Jvm.Cond.instanceMethod ({ cls := "PackSeeds$Pattern", name := "careAt", desc := "(I)I" } : Jvm.MethodName)) ∈ Gall := gw 342 (by decide +kernel) (by decide +kernel)
theorem tw_303 : (Jvm.Cond.code ({ cls := "PackSeeds$Pattern", name := "careAt", desc := "(I)I" } : Jvm.MethodName) prog_3_method_2_code (2 : Nat) (Option.some Jvm.ClassFile.FieldType.int)) ∈ Gall := gw 343 (by decide +kernel) (by decide +kernel)
theorem tw_304 : (Jvm.Cond.methodLink "PackSeedsLaw" (98 : Nat) ({ cls := "PackSeedsLaw", name := "degree", desc := "(LPackSeeds;I)I" } : Jvm.MethodName)) ∈ Gall := gw 344 (by decide +kernel) (by decide +kernel)
theorem tw_305 : (Jvm.Cond.static ({ cls := "PackSeedsLaw", name := "degree", desc := "(LPackSeeds;I)I" } : Jvm.MethodName)) ∈ Gall := gw 345 (by decide +kernel) (by decide +kernel)
theorem tw_306 : (Jvm.Cond.codeWith ({ cls := "PackSeedsLaw", name := "degree", desc := "(LPackSeeds;I)I" } : Jvm.MethodName) method_5_code (3 : Nat) (Option.some Jvm.ClassFile.FieldType.int) [((0 : Nat), (5 : Nat), (8 : Nat), (21 : Nat))]) ∈ Gall := gw 346 (by decide +kernel) (by decide +kernel)
theorem tw_307 : (Jvm.Cond.methodLink "PackSeedsLaw" (23 : Nat) ({ cls := "PackSeeds", name := "degree", desc := "(I)V" } : Jvm.MethodName)) ∈ Gall := gw 347 (by decide +kernel) (by decide +kernel)
theorem tw_308 : (Jvm.Cond.instanceMethod ({ cls := "PackSeeds", name := "degree", desc := "(I)V" } : Jvm.MethodName)) ∈ Gall := gw 348 (by decide +kernel) (by decide +kernel)
theorem tw_309 : (Jvm.Cond.selects "PackSeeds" ({ cls := "PackSeeds", name := "degree", desc := "(I)V" } : Jvm.MethodName) ({ cls := "PackSeeds", name := "degree", desc := "(I)V" } : Jvm.MethodName)) ∈ Gall := gw 349 (by decide +kernel) (by decide +kernel)
theorem tw_310 : (Jvm.Cond.code ({ cls := "PackSeeds", name := "degree", desc := "(I)V" } : Jvm.MethodName) prog_1_method_5_code (2 : Nat) (Option.none : Option Jvm.ClassFile.FieldType)) ∈ Gall := gw 350 (by decide +kernel) (by decide +kernel)
theorem tw_314 : (Jvm.Cond.instanceMethod ({ cls := "PackSeeds$Machine", name := "restart", desc := "(I)V" } : Jvm.MethodName)) ∈ Gall := gw 354 (by decide +kernel) (by decide +kernel)
theorem tw_315 : (Jvm.Cond.code ({ cls := "PackSeeds$Machine", name := "restart", desc := "(I)V" } : Jvm.MethodName) prog_2_method_2_code (2 : Nat) (Option.none : Option Jvm.ClassFile.FieldType)) ∈ Gall := gw 355 (by decide +kernel) (by decide +kernel)
theorem tw_316 : (Jvm.Cond.methodLink "PackSeeds" (82 : Nat) ({ cls := "PackSeeds", name := "forgetSeeds", desc := "()V" } : Jvm.MethodName)) ∈ Gall := gw 356 (by decide +kernel) (by decide +kernel)
theorem tw_318 : (Jvm.Cond.instanceMethod ({ cls := "PackSeeds", name := "forgetSeeds", desc := "()V" } : Jvm.MethodName)) ∈ Gall := gw 358 (by decide +kernel) (by decide +kernel)
theorem tw_319 : (Jvm.Cond.code ({ cls := "PackSeeds", name := "forgetSeeds", desc := "()V" } : Jvm.MethodName) prog_1_method_26_code (3 : Nat) (Option.none : Option Jvm.ClassFile.FieldType)) ∈ Gall := gw 359 (by decide +kernel) (by decide +kernel)
theorem tw_320 : (Jvm.Cond.methodLink "PackSeedsLaw" (102 : Nat) ({ cls := "PackSeedsLaw", name := "machine", desc := "(LPackSeeds;IZ[J)I" } : Jvm.MethodName)) ∈ Gall := gw 360 (by decide +kernel) (by decide +kernel)
theorem tw_321 : (Jvm.Cond.static ({ cls := "PackSeedsLaw", name := "machine", desc := "(LPackSeeds;IZ[J)I" } : Jvm.MethodName)) ∈ Gall := gw 361 (by decide +kernel) (by decide +kernel)
theorem tw_322 : (Jvm.Cond.codeWith ({ cls := "PackSeedsLaw", name := "machine", desc := "(LPackSeeds;IZ[J)I" } : Jvm.MethodName) method_6_code (5 : Nat) (Option.some Jvm.ClassFile.FieldType.int) [((0 : Nat), (17 : Nat), (20 : Nat), (19 : Nat)), ((0 : Nat), (17 : Nat), (24 : Nat), (21 : Nat))]) ∈ Gall := gw 362 (by decide +kernel) (by decide +kernel)
theorem tw_323 : (Jvm.Cond.methodLink "PackSeedsLaw" (27 : Nat) ({ cls := "PackSeeds", name := "machine", desc := "(IZ)Z" } : Jvm.MethodName)) ∈ Gall := gw 363 (by decide +kernel) (by decide +kernel)
theorem tw_324 : (Jvm.Cond.instanceMethod ({ cls := "PackSeeds", name := "machine", desc := "(IZ)Z" } : Jvm.MethodName)) ∈ Gall := gw 364 (by decide +kernel) (by decide +kernel)
theorem tw_325 : (Jvm.Cond.selects "PackSeeds" ({ cls := "PackSeeds", name := "machine", desc := "(IZ)Z" } : Jvm.MethodName) ({ cls := "PackSeeds", name := "machine", desc := "(IZ)Z" } : Jvm.MethodName)) ∈ Gall := gw 365 (by decide +kernel) (by decide +kernel)
theorem tw_326 : (Jvm.Cond.code ({ cls := "PackSeeds", name := "machine", desc := "(IZ)Z" } : Jvm.MethodName) prog_1_method_6_code (3 : Nat) (Option.some Jvm.ClassFile.FieldType.boolean)) ∈ Gall := gw 366 (by decide +kernel) (by decide +kernel)
theorem tw_331 : (Jvm.Cond.instanceMethod ({ cls := "PackSeeds$Machine", name := "isTapped", desc := "(I)Z" } : Jvm.MethodName)) ∈ Gall := gw 371 (by decide +kernel) (by decide +kernel)
theorem tw_332 : (Jvm.Cond.code ({ cls := "PackSeeds$Machine", name := "isTapped", desc := "(I)Z" } : Jvm.MethodName) prog_2_method_3_code (2 : Nat) (Option.some Jvm.ClassFile.FieldType.boolean)) ∈ Gall := gw 372 (by decide +kernel) (by decide +kernel)
theorem tw_335 : (Jvm.Cond.instanceMethod ({ cls := "PackSeeds$Machine", name := "turnTap", desc := "(I)V" } : Jvm.MethodName)) ∈ Gall := gw 375 (by decide +kernel) (by decide +kernel)
theorem tw_336 : (Jvm.Cond.code ({ cls := "PackSeeds$Machine", name := "turnTap", desc := "(I)V" } : Jvm.MethodName) prog_2_method_4_code (2 : Nat) (Option.none : Option Jvm.ClassFile.FieldType)) ∈ Gall := gw 376 (by decide +kernel) (by decide +kernel)
theorem tw_337 : (Jvm.Cond.methodLink "PackSeedsLaw" (106 : Nat) ({ cls := "PackSeedsLaw", name := "seed", desc := "(LPackSeeds;I[J)I" } : Jvm.MethodName)) ∈ Gall := gw 377 (by decide +kernel) (by decide +kernel)
theorem tw_338 : (Jvm.Cond.static ({ cls := "PackSeedsLaw", name := "seed", desc := "(LPackSeeds;I[J)I" } : Jvm.MethodName)) ∈ Gall := gw 378 (by decide +kernel) (by decide +kernel)
theorem tw_339 : (Jvm.Cond.codeWith ({ cls := "PackSeedsLaw", name := "seed", desc := "(LPackSeeds;I[J)I" } : Jvm.MethodName) method_7_code (4 : Nat) (Option.some Jvm.ClassFile.FieldType.int) [((0 : Nat), (9 : Nat), (12 : Nat), (19 : Nat))]) ∈ Gall := gw 379 (by decide +kernel) (by decide +kernel)
theorem tw_340 : (Jvm.Cond.methodLink "PackSeedsLaw" (31 : Nat) ({ cls := "PackSeeds", name := "seed", desc := "(I)I" } : Jvm.MethodName)) ∈ Gall := gw 380 (by decide +kernel) (by decide +kernel)
theorem tw_341 : (Jvm.Cond.instanceMethod ({ cls := "PackSeeds", name := "seed", desc := "(I)I" } : Jvm.MethodName)) ∈ Gall := gw 381 (by decide +kernel) (by decide +kernel)
theorem tw_342 : (Jvm.Cond.selects "PackSeeds" ({ cls := "PackSeeds", name := "seed", desc := "(I)I" } : Jvm.MethodName) ({ cls := "PackSeeds", name := "seed", desc := "(I)I" } : Jvm.MethodName)) ∈ Gall := gw 382 (by decide +kernel) (by decide +kernel)
theorem tw_343 : (Jvm.Cond.code ({ cls := "PackSeeds", name := "seed", desc := "(I)I" } : Jvm.MethodName) prog_1_method_7_code (3 : Nat) (Option.some Jvm.ClassFile.FieldType.int)) ∈ Gall := gw 383 (by decide +kernel) (by decide +kernel)
theorem tw_346 : (Jvm.Cond.instanceMethod ({ cls := "PackSeeds$Machine", name := "leastSeed", desc := "(II)I" } : Jvm.MethodName)) ∈ Gall := gw 386 (by decide +kernel) (by decide +kernel)
theorem tw_347 : (Jvm.Cond.code ({ cls := "PackSeeds$Machine", name := "leastSeed", desc := "(II)I" } : Jvm.MethodName) prog_2_method_10_code (5 : Nat) (Option.some Jvm.ClassFile.FieldType.int)) ∈ Gall := gw 387 (by decide +kernel) (by decide +kernel)
theorem tw_348 : (Jvm.Cond.methodLink "PackSeeds$Machine" (50 : Nat) ({ cls := "PackSeeds$Machine", name := "make", desc := "(I)I" } : Jvm.MethodName)) ∈ Gall := gw 388 (by decide +kernel) (by decide +kernel)
theorem tw_350 : (Jvm.Cond.instanceMethod ({ cls := "PackSeeds$Machine", name := "make", desc := "(I)I" } : Jvm.MethodName)) ∈ Gall := gw 390 (by decide +kernel) (by decide +kernel)
theorem tw_351 : (Jvm.Cond.code ({ cls := "PackSeeds$Machine", name := "make", desc := "(I)I" } : Jvm.MethodName) prog_2_method_7_code (6 : Nat) (Option.some Jvm.ClassFile.FieldType.int)) ∈ Gall := gw 391 (by decide +kernel) (by decide +kernel)
theorem tw_352 : (Jvm.Cond.methodLink "PackSeeds$Machine" (40 : Nat) ({ cls := "PackSeeds$Machine", name := "stageAround", desc := "(I)I" } : Jvm.MethodName)) ∈ Gall := gw 392 (by decide +kernel) (by decide +kernel)
theorem tw_354 : (Jvm.Cond.instanceMethod ({ cls := "PackSeeds$Machine", name := "stageAround", desc := "(I)I" } : Jvm.MethodName)) ∈ Gall := gw 394 (by decide +kernel) (by decide +kernel)
theorem tw_355 : (Jvm.Cond.code ({ cls := "PackSeeds$Machine", name := "stageAround", desc := "(I)I" } : Jvm.MethodName) prog_2_method_6_code (2 : Nat) (Option.some Jvm.ClassFile.FieldType.int)) ∈ Gall := gw 395 (by decide +kernel) (by decide +kernel)
theorem tw_357 : (Jvm.Cond.methodLink "PackSeeds$Machine" (53 : Nat) ({ cls := "PackSeeds$Machine", name := "row", desc := "(II)J" } : Jvm.MethodName)) ∈ Gall := gw 397 (by decide +kernel) (by decide +kernel)
theorem tw_358 : (Jvm.Cond.static ({ cls := "PackSeeds$Machine", name := "row", desc := "(II)J" } : Jvm.MethodName)) ∈ Gall := gw 398 (by decide +kernel) (by decide +kernel)
theorem tw_359 : (Jvm.Cond.code ({ cls := "PackSeeds$Machine", name := "row", desc := "(II)J" } : Jvm.MethodName) prog_2_method_11_code (2 : Nat) (Option.some Jvm.ClassFile.FieldType.long)) ∈ Gall := gw 399 (by decide +kernel) (by decide +kernel)
theorem tw_360 : (Jvm.Cond.methodLink "PackSeeds$Machine" (57 : Nat) ({ cls := "PackSeeds$Machine", name := "reduced", desc := "(J)J" } : Jvm.MethodName)) ∈ Gall := gw 400 (by decide +kernel) (by decide +kernel)
theorem tw_362 : (Jvm.Cond.instanceMethod ({ cls := "PackSeeds$Machine", name := "reduced", desc := "(J)J" } : Jvm.MethodName)) ∈ Gall := gw 402 (by decide +kernel) (by decide +kernel)
theorem tw_363 : (Jvm.Cond.code ({ cls := "PackSeeds$Machine", name := "reduced", desc := "(J)J" } : Jvm.MethodName) prog_2_method_13_code (6 : Nat) (Option.some Jvm.ClassFile.FieldType.long)) ∈ Gall := gw 403 (by decide +kernel) (by decide +kernel)
theorem tw_364 : (Jvm.Cond.methodLink "PackSeeds$Machine" (61 : Nat) ({ cls := "PackSeeds$Machine", name := "keep", desc := "(J)V" } : Jvm.MethodName)) ∈ Gall := gw 404 (by decide +kernel) (by decide +kernel)
theorem tw_366 : (Jvm.Cond.instanceMethod ({ cls := "PackSeeds$Machine", name := "keep", desc := "(J)V" } : Jvm.MethodName)) ∈ Gall := gw 406 (by decide +kernel) (by decide +kernel)
theorem tw_367 : (Jvm.Cond.code ({ cls := "PackSeeds$Machine", name := "keep", desc := "(J)V" } : Jvm.MethodName) prog_2_method_14_code (4 : Nat) (Option.none : Option Jvm.ClassFile.FieldType)) ∈ Gall := gw 407 (by decide +kernel) (by decide +kernel)
theorem tw_368 : (Jvm.Cond.methodLink "PackSeeds$Machine" (65 : Nat) ({ cls := "PackSeeds$Machine", name := "cellsOf", desc := "(J)J" } : Jvm.MethodName)) ∈ Gall := gw 408 (by decide +kernel) (by decide +kernel)
theorem tw_369 : (Jvm.Cond.static ({ cls := "PackSeeds$Machine", name := "cellsOf", desc := "(J)J" } : Jvm.MethodName)) ∈ Gall := gw 409 (by decide +kernel) (by decide +kernel)
theorem tw_370 : (Jvm.Cond.code ({ cls := "PackSeeds$Machine", name := "cellsOf", desc := "(J)J" } : Jvm.MethodName) prog_2_method_12_code (2 : Nat) (Option.some Jvm.ClassFile.FieldType.long)) ∈ Gall := gw 410 (by decide +kernel) (by decide +kernel)
theorem tw_371 : (Jvm.Cond.methodLink "PackSeedsLaw" (110 : Nat) ({ cls := "PackSeedsLaw", name := "seedOf", desc := "(LPackSeeds;I[J)I" } : Jvm.MethodName)) ∈ Gall := gw 411 (by decide +kernel) (by decide +kernel)
theorem tw_372 : (Jvm.Cond.static ({ cls := "PackSeedsLaw", name := "seedOf", desc := "(LPackSeeds;I[J)I" } : Jvm.MethodName)) ∈ Gall := gw 412 (by decide +kernel) (by decide +kernel)
theorem tw_373 : (Jvm.Cond.codeWith ({ cls := "PackSeedsLaw", name := "seedOf", desc := "(LPackSeeds;I[J)I" } : Jvm.MethodName) method_8_code (4 : Nat) (Option.some Jvm.ClassFile.FieldType.int) [((0 : Nat), (9 : Nat), (12 : Nat), (19 : Nat))]) ∈ Gall := gw 413 (by decide +kernel) (by decide +kernel)
theorem tw_374 : (Jvm.Cond.methodLink "PackSeedsLaw" (35 : Nat) ({ cls := "PackSeeds", name := "seedOf", desc := "(I)I" } : Jvm.MethodName)) ∈ Gall := gw 414 (by decide +kernel) (by decide +kernel)
theorem tw_375 : (Jvm.Cond.instanceMethod ({ cls := "PackSeeds", name := "seedOf", desc := "(I)I" } : Jvm.MethodName)) ∈ Gall := gw 415 (by decide +kernel) (by decide +kernel)
theorem tw_376 : (Jvm.Cond.selects "PackSeeds" ({ cls := "PackSeeds", name := "seedOf", desc := "(I)I" } : Jvm.MethodName) ({ cls := "PackSeeds", name := "seedOf", desc := "(I)I" } : Jvm.MethodName)) ∈ Gall := gw 416 (by decide +kernel) (by decide +kernel)
theorem tw_377 : (Jvm.Cond.code ({ cls := "PackSeeds", name := "seedOf", desc := "(I)I" } : Jvm.MethodName) prog_1_method_8_code (2 : Nat) (Option.some Jvm.ClassFile.FieldType.int)) ∈ Gall := gw 417 (by decide +kernel) (by decide +kernel)
theorem tw_378 : (Jvm.Cond.methodLink "PackSeedsLaw" (113 : Nat) ({ cls := "PackSeedsLaw", name := "bit", desc := "(LPackSeeds;III[J)I" } : Jvm.MethodName)) ∈ Gall := gw 418 (by decide +kernel) (by decide +kernel)
theorem tw_379 : (Jvm.Cond.static ({ cls := "PackSeedsLaw", name := "bit", desc := "(LPackSeeds;III[J)I" } : Jvm.MethodName)) ∈ Gall := gw 419 (by decide +kernel) (by decide +kernel)
theorem tw_380 : (Jvm.Cond.codeWith ({ cls := "PackSeedsLaw", name := "bit", desc := "(LPackSeeds;III[J)I" } : Jvm.MethodName) method_9_code (6 : Nat) (Option.some Jvm.ClassFile.FieldType.int) [((0 : Nat), (12 : Nat), (15 : Nat), (19 : Nat))]) ∈ Gall := gw 420 (by decide +kernel) (by decide +kernel)
theorem tw_381 : (Jvm.Cond.methodLink "PackSeedsLaw" (38 : Nat) ({ cls := "PackSeeds", name := "bit", desc := "(III)I" } : Jvm.MethodName)) ∈ Gall := gw 421 (by decide +kernel) (by decide +kernel)
theorem tw_382 : (Jvm.Cond.instanceMethod ({ cls := "PackSeeds", name := "bit", desc := "(III)I" } : Jvm.MethodName)) ∈ Gall := gw 422 (by decide +kernel) (by decide +kernel)
theorem tw_383 : (Jvm.Cond.selects "PackSeeds" ({ cls := "PackSeeds", name := "bit", desc := "(III)I" } : Jvm.MethodName) ({ cls := "PackSeeds", name := "bit", desc := "(III)I" } : Jvm.MethodName)) ∈ Gall := gw 423 (by decide +kernel) (by decide +kernel)
theorem tw_384 : (Jvm.Cond.code ({ cls := "PackSeeds", name := "bit", desc := "(III)I" } : Jvm.MethodName) prog_1_method_9_code (6 : Nat) (Option.some Jvm.ClassFile.FieldType.int)) ∈ Gall := gw 424 (by decide +kernel) (by decide +kernel)
theorem tw_385 : (Jvm.Cond.methodLink "PackSeeds" (114 : Nat) ({ cls := "PackSeeds", name := "bitsOf", desc := "(LPackSeeds$Pattern;)I" } : Jvm.MethodName)) ∈ Gall := gw 425 (by decide +kernel) (by decide +kernel)
theorem tw_387 : (Jvm.Cond.instanceMethod ({ cls := "PackSeeds", name := "bitsOf", desc := "(LPackSeeds$Pattern;)I" } : Jvm.MethodName)) ∈ Gall := gw 427 (by decide +kernel) (by decide +kernel)
theorem tw_388 : (Jvm.Cond.code ({ cls := "PackSeeds", name := "bitsOf", desc := "(LPackSeeds$Pattern;)I" } : Jvm.MethodName) prog_1_method_31_code (2 : Nat) (Option.some Jvm.ClassFile.FieldType.int)) ∈ Gall := gw 428 (by decide +kernel) (by decide +kernel)
theorem tw_390 : (Jvm.Cond.methodLink "PackSeeds" (201 : Nat) ({ cls := "PackSeeds", name := "filledFromNearest", desc := "(LPackSeeds$Pattern;)I" } : Jvm.MethodName)) ∈ Gall := gw 430 (by decide +kernel) (by decide +kernel)
theorem tw_392 : (Jvm.Cond.instanceMethod ({ cls := "PackSeeds", name := "filledFromNearest", desc := "(LPackSeeds$Pattern;)I" } : Jvm.MethodName)) ∈ Gall := gw 432 (by decide +kernel) (by decide +kernel)
theorem tw_393 : (Jvm.Cond.code ({ cls := "PackSeeds", name := "filledFromNearest", desc := "(LPackSeeds$Pattern;)I" } : Jvm.MethodName) prog_1_method_32_code (5 : Nat) (Option.some Jvm.ClassFile.FieldType.int)) ∈ Gall := gw 433 (by decide +kernel) (by decide +kernel)
theorem tw_394 : (Jvm.Cond.methodLink "PackSeeds" (204 : Nat) ({ cls := "PackSeeds", name := "nearestCare", desc := "(LPackSeeds$Pattern;II)I" } : Jvm.MethodName)) ∈ Gall := gw 434 (by decide +kernel) (by decide +kernel)
theorem tw_396 : (Jvm.Cond.instanceMethod ({ cls := "PackSeeds", name := "nearestCare", desc := "(LPackSeeds$Pattern;II)I" } : Jvm.MethodName)) ∈ Gall := gw 436 (by decide +kernel) (by decide +kernel)
theorem tw_397 : (Jvm.Cond.code ({ cls := "PackSeeds", name := "nearestCare", desc := "(LPackSeeds$Pattern;II)I" } : Jvm.MethodName) prog_1_method_33_code (6 : Nat) (Option.some Jvm.ClassFile.FieldType.int)) ∈ Gall := gw 437 (by decide +kernel) (by decide +kernel)
theorem tw_399 : (Jvm.Cond.methodLink "PackSeedsLaw" (117 : Nat) ({ cls := "PackSeedsLaw", name := "found", desc := "(LPackSeeds;II[J)I" } : Jvm.MethodName)) ∈ Gall := gw 439 (by decide +kernel) (by decide +kernel)
theorem tw_400 : (Jvm.Cond.static ({ cls := "PackSeedsLaw", name := "found", desc := "(LPackSeeds;II[J)I" } : Jvm.MethodName)) ∈ Gall := gw 440 (by decide +kernel) (by decide +kernel)
theorem tw_401 : (Jvm.Cond.codeWith ({ cls := "PackSeedsLaw", name := "found", desc := "(LPackSeeds;II[J)I" } : Jvm.MethodName) method_10_code (5 : Nat) (Option.some Jvm.ClassFile.FieldType.int) [((0 : Nat), (17 : Nat), (20 : Nat), (19 : Nat))]) ∈ Gall := gw 441 (by decide +kernel) (by decide +kernel)
theorem tw_402 : (Jvm.Cond.methodLink "PackSeedsLaw" (42 : Nat) ({ cls := "PackSeeds", name := "found", desc := "(II)Z" } : Jvm.MethodName)) ∈ Gall := gw 442 (by decide +kernel) (by decide +kernel)
theorem tw_403 : (Jvm.Cond.instanceMethod ({ cls := "PackSeeds", name := "found", desc := "(II)Z" } : Jvm.MethodName)) ∈ Gall := gw 443 (by decide +kernel) (by decide +kernel)
theorem tw_404 : (Jvm.Cond.selects "PackSeeds" ({ cls := "PackSeeds", name := "found", desc := "(II)Z" } : Jvm.MethodName) ({ cls := "PackSeeds", name := "found", desc := "(II)Z" } : Jvm.MethodName)) ∈ Gall := gw 444 (by decide +kernel) (by decide +kernel)
theorem tw_405 : (Jvm.Cond.code ({ cls := "PackSeeds", name := "found", desc := "(II)Z" } : Jvm.MethodName) prog_1_method_10_code (6 : Nat) (Option.some Jvm.ClassFile.FieldType.boolean)) ∈ Gall := gw 445 (by decide +kernel) (by decide +kernel)
theorem tw_406 : (Jvm.Cond.methodLink "PackSeeds" (118 : Nat) ({ cls := "PackSeeds", name := "existingFault", desc := "(I)I" } : Jvm.MethodName)) ∈ Gall := gw 446 (by decide +kernel) (by decide +kernel)
theorem tw_407 : (Jvm.Cond.static ({ cls := "PackSeeds", name := "existingFault", desc := "(I)I" } : Jvm.MethodName)) ∈ Gall := gw 447 (by decide +kernel) (by decide +kernel)
theorem tw_408 : (Jvm.Cond.code ({ cls := "PackSeeds", name := "existingFault", desc := "(I)I" } : Jvm.MethodName) prog_1_method_23_code (1 : Nat) (Option.some Jvm.ClassFile.FieldType.int)) ∈ Gall := gw 448 (by decide +kernel) (by decide +kernel)
theorem tw_410 : (Jvm.Cond.methodLink "PackSeedsLaw" (125 : Nat) ({ cls := "PackSeedsLaw", name := "finders", desc := "(LPackSeeds;I[J)I" } : Jvm.MethodName)) ∈ Gall := gw 450 (by decide +kernel) (by decide +kernel)
theorem tw_411 : (Jvm.Cond.static ({ cls := "PackSeedsLaw", name := "finders", desc := "(LPackSeeds;I[J)I" } : Jvm.MethodName)) ∈ Gall := gw 451 (by decide +kernel) (by decide +kernel)
theorem tw_412 : (Jvm.Cond.codeWith ({ cls := "PackSeedsLaw", name := "finders", desc := "(LPackSeeds;I[J)I" } : Jvm.MethodName) method_11_code (4 : Nat) (Option.some Jvm.ClassFile.FieldType.int) [((0 : Nat), (9 : Nat), (12 : Nat), (19 : Nat))]) ∈ Gall := gw 452 (by decide +kernel) (by decide +kernel)
theorem tw_413 : (Jvm.Cond.methodLink "PackSeedsLaw" (46 : Nat) ({ cls := "PackSeeds", name := "finders", desc := "(I)I" } : Jvm.MethodName)) ∈ Gall := gw 453 (by decide +kernel) (by decide +kernel)
theorem tw_414 : (Jvm.Cond.instanceMethod ({ cls := "PackSeeds", name := "finders", desc := "(I)I" } : Jvm.MethodName)) ∈ Gall := gw 454 (by decide +kernel) (by decide +kernel)
theorem tw_415 : (Jvm.Cond.selects "PackSeeds" ({ cls := "PackSeeds", name := "finders", desc := "(I)I" } : Jvm.MethodName) ({ cls := "PackSeeds", name := "finders", desc := "(I)I" } : Jvm.MethodName)) ∈ Gall := gw 455 (by decide +kernel) (by decide +kernel)
theorem tw_416 : (Jvm.Cond.code ({ cls := "PackSeeds", name := "finders", desc := "(I)I" } : Jvm.MethodName) prog_1_method_12_code (6 : Nat) (Option.some Jvm.ClassFile.FieldType.int)) ∈ Gall := gw 456 (by decide +kernel) (by decide +kernel)
theorem tw_417 : (Jvm.Cond.methodLink "PackSeedsLaw" (128 : Nat) ({ cls := "PackSeedsLaw", name := "mask", desc := "(LPackSeeds;III[J)I" } : Jvm.MethodName)) ∈ Gall := gw 457 (by decide +kernel) (by decide +kernel)
theorem tw_418 : (Jvm.Cond.static ({ cls := "PackSeedsLaw", name := "mask", desc := "(LPackSeeds;III[J)I" } : Jvm.MethodName)) ∈ Gall := gw 458 (by decide +kernel) (by decide +kernel)
theorem tw_419 : (Jvm.Cond.codeWith ({ cls := "PackSeedsLaw", name := "mask", desc := "(LPackSeeds;III[J)I" } : Jvm.MethodName) method_12_code (6 : Nat) (Option.some Jvm.ClassFile.FieldType.int) [((0 : Nat), (19 : Nat), (22 : Nat), (19 : Nat))]) ∈ Gall := gw 459 (by decide +kernel) (by decide +kernel)
theorem tw_420 : (Jvm.Cond.methodLink "PackSeedsLaw" (49 : Nat) ({ cls := "PackSeeds", name := "mask", desc := "(III)Z" } : Jvm.MethodName)) ∈ Gall := gw 460 (by decide +kernel) (by decide +kernel)
theorem tw_421 : (Jvm.Cond.instanceMethod ({ cls := "PackSeeds", name := "mask", desc := "(III)Z" } : Jvm.MethodName)) ∈ Gall := gw 461 (by decide +kernel) (by decide +kernel)
theorem tw_422 : (Jvm.Cond.selects "PackSeeds" ({ cls := "PackSeeds", name := "mask", desc := "(III)Z" } : Jvm.MethodName) ({ cls := "PackSeeds", name := "mask", desc := "(III)Z" } : Jvm.MethodName)) ∈ Gall := gw 462 (by decide +kernel) (by decide +kernel)
theorem tw_423 : (Jvm.Cond.code ({ cls := "PackSeeds", name := "mask", desc := "(III)Z" } : Jvm.MethodName) prog_1_method_13_code (7 : Nat) (Option.some Jvm.ClassFile.FieldType.boolean)) ∈ Gall := gw 463 (by decide +kernel) (by decide +kernel)
theorem tw_424 : (Jvm.Cond.methodLink "PackSeedsLaw" (131 : Nat) ({ cls := "PackSeedsLaw", name := "signature", desc := "(LPackSeeds;II[J)I" } : Jvm.MethodName)) ∈ Gall := gw 464 (by decide +kernel) (by decide +kernel)
theorem tw_425 : (Jvm.Cond.static ({ cls := "PackSeedsLaw", name := "signature", desc := "(LPackSeeds;II[J)I" } : Jvm.MethodName)) ∈ Gall := gw 465 (by decide +kernel) (by decide +kernel)
theorem tw_426 : (Jvm.Cond.codeWith ({ cls := "PackSeedsLaw", name := "signature", desc := "(LPackSeeds;II[J)I" } : Jvm.MethodName) method_13_code (5 : Nat) (Option.some Jvm.ClassFile.FieldType.int) [((0 : Nat), (9 : Nat), (12 : Nat), (21 : Nat))]) ∈ Gall := gw 466 (by decide +kernel) (by decide +kernel)
theorem tw_427 : (Jvm.Cond.methodLink "PackSeedsLaw" (53 : Nat) ({ cls := "PackSeeds", name := "signature", desc := "(II)J" } : Jvm.MethodName)) ∈ Gall := gw 467 (by decide +kernel) (by decide +kernel)
theorem tw_428 : (Jvm.Cond.instanceMethod ({ cls := "PackSeeds", name := "signature", desc := "(II)J" } : Jvm.MethodName)) ∈ Gall := gw 468 (by decide +kernel) (by decide +kernel)
theorem tw_429 : (Jvm.Cond.selects "PackSeeds" ({ cls := "PackSeeds", name := "signature", desc := "(II)J" } : Jvm.MethodName) ({ cls := "PackSeeds", name := "signature", desc := "(II)J" } : Jvm.MethodName)) ∈ Gall := gw 469 (by decide +kernel) (by decide +kernel)
theorem tw_430 : (Jvm.Cond.code ({ cls := "PackSeeds", name := "signature", desc := "(II)J" } : Jvm.MethodName) prog_1_method_14_code (7 : Nat) (Option.some Jvm.ClassFile.FieldType.long)) ∈ Gall := gw 470 (by decide +kernel) (by decide +kernel)
theorem tw_432 : (Jvm.Cond.methodLink "PackSeeds" (137 : Nat) ({ cls := "java/lang/Math", name := "min", desc := "(II)I" } : Jvm.MethodName)) ∈ Gall := gw 472 (by decide +kernel) (by decide +kernel)
theorem tw_435 : (Jvm.Cond.instanceMethod ({ cls := "PackSeeds$Machine", name := "takeIn", desc := "(II)I" } : Jvm.MethodName)) ∈ Gall := gw 475 (by decide +kernel) (by decide +kernel)
theorem tw_436 : (Jvm.Cond.code ({ cls := "PackSeeds$Machine", name := "takeIn", desc := "(II)I" } : Jvm.MethodName) prog_2_method_8_code (6 : Nat) (Option.some Jvm.ClassFile.FieldType.int)) ∈ Gall := gw 476 (by decide +kernel) (by decide +kernel)
theorem tw_437 : (Jvm.Cond.methodLink "PackSeedsLaw" (139 : Nat) ({ cls := "PackSeedsLaw", name := "alias", desc := "(LPackSeeds;II[J)I" } : Jvm.MethodName)) ∈ Gall := gw 477 (by decide +kernel) (by decide +kernel)
theorem tw_438 : (Jvm.Cond.static ({ cls := "PackSeedsLaw", name := "alias", desc := "(LPackSeeds;II[J)I" } : Jvm.MethodName)) ∈ Gall := gw 478 (by decide +kernel) (by decide +kernel)
theorem tw_439 : (Jvm.Cond.codeWith ({ cls := "PackSeedsLaw", name := "alias", desc := "(LPackSeeds;II[J)I" } : Jvm.MethodName) method_14_code (5 : Nat) (Option.some Jvm.ClassFile.FieldType.int) [((0 : Nat), (9 : Nat), (12 : Nat), (21 : Nat))]) ∈ Gall := gw 479 (by decide +kernel) (by decide +kernel)
theorem tw_440 : (Jvm.Cond.methodLink "PackSeedsLaw" (57 : Nat) ({ cls := "PackSeeds", name := "alias", desc := "(II)J" } : Jvm.MethodName)) ∈ Gall := gw 480 (by decide +kernel) (by decide +kernel)
theorem tw_441 : (Jvm.Cond.instanceMethod ({ cls := "PackSeeds", name := "alias", desc := "(II)J" } : Jvm.MethodName)) ∈ Gall := gw 481 (by decide +kernel) (by decide +kernel)
theorem tw_442 : (Jvm.Cond.selects "PackSeeds" ({ cls := "PackSeeds", name := "alias", desc := "(II)J" } : Jvm.MethodName) ({ cls := "PackSeeds", name := "alias", desc := "(II)J" } : Jvm.MethodName)) ∈ Gall := gw 482 (by decide +kernel) (by decide +kernel)
theorem tw_443 : (Jvm.Cond.code ({ cls := "PackSeeds", name := "alias", desc := "(II)J" } : Jvm.MethodName) prog_1_method_16_code (8 : Nat) (Option.some Jvm.ClassFile.FieldType.long)) ∈ Gall := gw 483 (by decide +kernel) (by decide +kernel)
theorem tw_446 : (Jvm.Cond.methodLink "PackSeeds" (153 : Nat) ({ cls := "java/lang/Math", name := "max", desc := "(II)I" } : Jvm.MethodName)) ∈ Gall := gw 486 (by decide +kernel) (by decide +kernel)
theorem tw_447 : (Jvm.Cond.methodLink "PackSeeds" (156 : Nat) ({ cls := "PackSeeds", name := "greatestDivisor", desc := "(JJ)J" } : Jvm.MethodName)) ∈ Gall := gw 487 (by decide +kernel) (by decide +kernel)
theorem tw_448 : (Jvm.Cond.static ({ cls := "PackSeeds", name := "greatestDivisor", desc := "(JJ)J" } : Jvm.MethodName)) ∈ Gall := gw 488 (by decide +kernel) (by decide +kernel)
theorem tw_449 : (Jvm.Cond.code ({ cls := "PackSeeds", name := "greatestDivisor", desc := "(JJ)J" } : Jvm.MethodName) prog_1_method_34_code (11 : Nat) (Option.some Jvm.ClassFile.FieldType.long)) ∈ Gall := gw 489 (by decide +kernel) (by decide +kernel)
theorem tw_450 : (Jvm.Cond.methodLink "PackSeeds" (211 : Nat) ({ cls := "java/lang/Math", name := "max", desc := "(JJ)J" } : Jvm.MethodName)) ∈ Gall := gw 490 (by decide +kernel) (by decide +kernel)
theorem tw_451 : (Jvm.Cond.static ({ cls := "java/lang/Math", name := "max", desc := "(JJ)J" } : Jvm.MethodName)) ∈ Gall := gw 491 (by decide +kernel) (by decide +kernel)
theorem tw_452 : (Jvm.Cond.code ({ cls := "java/lang/Math", name := "max", desc := "(JJ)J" } : Jvm.MethodName) prog_11_method_66_code (4 : Nat) (Option.some Jvm.ClassFile.FieldType.long)) ∈ Gall := gw 492 (by decide +kernel) (by decide +kernel)
theorem tw_453 : (Jvm.Cond.methodLink "PackSeedsLaw" (142 : Nat) ({ cls := "PackSeedsLaw", name := "fill", desc := "(LPackSeeds;I[J)I" } : Jvm.MethodName)) ∈ Gall := gw 493 (by decide +kernel) (by decide +kernel)
theorem tw_454 : (Jvm.Cond.static ({ cls := "PackSeedsLaw", name := "fill", desc := "(LPackSeeds;I[J)I" } : Jvm.MethodName)) ∈ Gall := gw 494 (by decide +kernel) (by decide +kernel)
theorem tw_455 : (Jvm.Cond.codeWith ({ cls := "PackSeedsLaw", name := "fill", desc := "(LPackSeeds;I[J)I" } : Jvm.MethodName) method_15_code (4 : Nat) (Option.some Jvm.ClassFile.FieldType.int) [((0 : Nat), (16 : Nat), (19 : Nat), (21 : Nat))]) ∈ Gall := gw 495 (by decide +kernel) (by decide +kernel)
theorem tw_456 : (Jvm.Cond.methodLink "PackSeedsLaw" (60 : Nat) ({ cls := "PackSeeds", name := "fill", desc := "(I)Z" } : Jvm.MethodName)) ∈ Gall := gw 496 (by decide +kernel) (by decide +kernel)
theorem tw_457 : (Jvm.Cond.instanceMethod ({ cls := "PackSeeds", name := "fill", desc := "(I)Z" } : Jvm.MethodName)) ∈ Gall := gw 497 (by decide +kernel) (by decide +kernel)
theorem tw_458 : (Jvm.Cond.selects "PackSeeds" ({ cls := "PackSeeds", name := "fill", desc := "(I)Z" } : Jvm.MethodName) ({ cls := "PackSeeds", name := "fill", desc := "(I)Z" } : Jvm.MethodName)) ∈ Gall := gw 498 (by decide +kernel) (by decide +kernel)
theorem tw_459 : (Jvm.Cond.code ({ cls := "PackSeeds", name := "fill", desc := "(I)Z" } : Jvm.MethodName) prog_1_method_17_code (3 : Nat) (Option.some Jvm.ClassFile.FieldType.boolean)) ∈ Gall := gw 499 (by decide +kernel) (by decide +kernel)
theorem tw_461 : (Jvm.Cond.methodLink "PackSeedsLaw" (145 : Nat) ({ cls := "PackSeedsLaw", name := "shifts", desc := "(LPackSeeds;I[J)I" } : Jvm.MethodName)) ∈ Gall := gw 501 (by decide +kernel) (by decide +kernel)
theorem tw_462 : (Jvm.Cond.static ({ cls := "PackSeedsLaw", name := "shifts", desc := "(LPackSeeds;I[J)I" } : Jvm.MethodName)) ∈ Gall := gw 502 (by decide +kernel) (by decide +kernel)
theorem tw_463 : (Jvm.Cond.codeWith ({ cls := "PackSeedsLaw", name := "shifts", desc := "(LPackSeeds;I[J)I" } : Jvm.MethodName) method_16_code (4 : Nat) (Option.some Jvm.ClassFile.FieldType.int) [((0 : Nat), (8 : Nat), (11 : Nat), (19 : Nat))]) ∈ Gall := gw 503 (by decide +kernel) (by decide +kernel)
theorem tw_464 : (Jvm.Cond.methodLink "PackSeedsLaw" (64 : Nat) ({ cls := "PackSeeds", name := "shifts", desc := "(I)J" } : Jvm.MethodName)) ∈ Gall := gw 504 (by decide +kernel) (by decide +kernel)
theorem tw_465 : (Jvm.Cond.instanceMethod ({ cls := "PackSeeds", name := "shifts", desc := "(I)J" } : Jvm.MethodName)) ∈ Gall := gw 505 (by decide +kernel) (by decide +kernel)
theorem tw_466 : (Jvm.Cond.selects "PackSeeds" ({ cls := "PackSeeds", name := "shifts", desc := "(I)J" } : Jvm.MethodName) ({ cls := "PackSeeds", name := "shifts", desc := "(I)J" } : Jvm.MethodName)) ∈ Gall := gw 506 (by decide +kernel) (by decide +kernel)
theorem tw_467 : (Jvm.Cond.code ({ cls := "PackSeeds", name := "shifts", desc := "(I)J" } : Jvm.MethodName) prog_1_method_18_code (9 : Nat) (Option.some Jvm.ClassFile.FieldType.long)) ∈ Gall := gw 507 (by decide +kernel) (by decide +kernel)
theorem tw_468 : (Jvm.Cond.methodLink "PackSeedsLaw" (148 : Nat) ({ cls := "PackSeedsLaw", name := "count", desc := "(LPackSeeds;I[J)I" } : Jvm.MethodName)) ∈ Gall := gw 508 (by decide +kernel) (by decide +kernel)
theorem tw_469 : (Jvm.Cond.static ({ cls := "PackSeedsLaw", name := "count", desc := "(LPackSeeds;I[J)I" } : Jvm.MethodName)) ∈ Gall := gw 509 (by decide +kernel) (by decide +kernel)
theorem tw_470 : (Jvm.Cond.codeWith ({ cls := "PackSeedsLaw", name := "count", desc := "(LPackSeeds;I[J)I" } : Jvm.MethodName) method_17_code (4 : Nat) (Option.some Jvm.ClassFile.FieldType.int) [((0 : Nat), (9 : Nat), (12 : Nat), (19 : Nat))]) ∈ Gall := gw 510 (by decide +kernel) (by decide +kernel)
theorem tw_471 : (Jvm.Cond.methodLink "PackSeedsLaw" (68 : Nat) ({ cls := "PackSeeds", name := "count", desc := "(I)I" } : Jvm.MethodName)) ∈ Gall := gw 511 (by decide +kernel) (by decide +kernel)
theorem tw_472 : (Jvm.Cond.instanceMethod ({ cls := "PackSeeds", name := "count", desc := "(I)I" } : Jvm.MethodName)) ∈ Gall := gw 512 (by decide +kernel) (by decide +kernel)
theorem tw_473 : (Jvm.Cond.selects "PackSeeds" ({ cls := "PackSeeds", name := "count", desc := "(I)I" } : Jvm.MethodName) ({ cls := "PackSeeds", name := "count", desc := "(I)I" } : Jvm.MethodName)) ∈ Gall := gw 513 (by decide +kernel) (by decide +kernel)
theorem tw_474 : (Jvm.Cond.code ({ cls := "PackSeeds", name := "count", desc := "(I)I" } : Jvm.MethodName) prog_1_method_19_code (2 : Nat) (Option.some Jvm.ClassFile.FieldType.int)) ∈ Gall := gw 514 (by decide +kernel) (by decide +kernel)
theorem tw_475 : (Jvm.Cond.methodLink "PackSeeds" (171 : Nat) ({ cls := "PackSeeds", name := "countSeeded", desc := "()I" } : Jvm.MethodName)) ∈ Gall := gw 515 (by decide +kernel) (by decide +kernel)
theorem tw_477 : (Jvm.Cond.instanceMethod ({ cls := "PackSeeds", name := "countSeeded", desc := "()I" } : Jvm.MethodName)) ∈ Gall := gw 517 (by decide +kernel) (by decide +kernel)
theorem tw_478 : (Jvm.Cond.code ({ cls := "PackSeeds", name := "countSeeded", desc := "()I" } : Jvm.MethodName) prog_1_method_29_code (4 : Nat) (Option.some Jvm.ClassFile.FieldType.int)) ∈ Gall := gw 518 (by decide +kernel) (by decide +kernel)
theorem tw_479 : (Jvm.Cond.methodLink "PackSeeds" (174 : Nat) ({ cls := "PackSeeds", name := "countCared", desc := "()I" } : Jvm.MethodName)) ∈ Gall := gw 519 (by decide +kernel) (by decide +kernel)
theorem tw_481 : (Jvm.Cond.instanceMethod ({ cls := "PackSeeds", name := "countCared", desc := "()I" } : Jvm.MethodName)) ∈ Gall := gw 521 (by decide +kernel) (by decide +kernel)
theorem tw_482 : (Jvm.Cond.code ({ cls := "PackSeeds", name := "countCared", desc := "()I" } : Jvm.MethodName) prog_1_method_30_code (4 : Nat) (Option.some Jvm.ClassFile.FieldType.int)) ∈ Gall := gw 522 (by decide +kernel) (by decide +kernel)
theorem tw_483 : (Jvm.Cond.methodLink "PackSeeds" (177 : Nat) ({ cls := "java/lang/Integer", name := "bitCount", desc := "(I)I" } : Jvm.MethodName)) ∈ Gall := gw 523 (by decide +kernel) (by decide +kernel)
theorem tw_485 : (Jvm.Cond.classLink "PackSeedsLaw" (80 : Nat) "PackSeedsModel") ∈ Gall := gw 525 (by decide +kernel) (by decide +kernel)
theorem tw_486 : (Jvm.Cond.instantiable "PackSeedsModel" (13 : Nat)) ∈ Gall := gw 526 (by decide +kernel) (by decide +kernel)
theorem tw_487 : (Jvm.Cond.methodLink "PackSeedsLaw" (82 : Nat) ({ cls := "PackSeedsModel", name := "<init>", desc := "(II)V" } : Jvm.MethodName)) ∈ Gall := gw 527 (by decide +kernel) (by decide +kernel)
theorem tw_488 : (Jvm.Cond.instanceMethod ({ cls := "PackSeedsModel", name := "<init>", desc := "(II)V" } : Jvm.MethodName)) ∈ Gall := gw 528 (by decide +kernel) (by decide +kernel)
theorem tw_489 : (Jvm.Cond.code ({ cls := "PackSeedsModel", name := "<init>", desc := "(II)V" } : Jvm.MethodName) prog_6_method_1_code (3 : Nat) (Option.none : Option Jvm.ClassFile.FieldType)) ∈ Gall := gw 529 (by decide +kernel) (by decide +kernel)
theorem tw_490 : (Jvm.Cond.methodLink "PackSeedsModel" (1 : Nat) ({ cls := "java/lang/Object", name := "<init>", desc := "()V" } : Jvm.MethodName)) ∈ Gall := gw 530 (by decide +kernel) (by decide +kernel)
theorem tw_491 : (Jvm.Cond.fieldLink "PackSeedsModel" (42 : Nat) "PackSeedsModel" "thrown" "I") ∈ Gall := gw 531 (by decide +kernel) (by decide +kernel)
theorem tw_492 : (Jvm.Cond.fieldLink "PackSeedsModel" (32 : Nat) "PackSeedsModel" "chains" "I") ∈ Gall := gw 532 (by decide +kernel) (by decide +kernel)
theorem tw_493 : (Jvm.Cond.fieldLink "PackSeedsModel" (36 : Nat) "PackSeedsModel" "length" "I") ∈ Gall := gw 533 (by decide +kernel) (by decide +kernel)
theorem tw_494 : (Jvm.Cond.fieldLink "PackSeedsModel" (7 : Nat) "PackSeedsModel" "cares" "[I") ∈ Gall := gw 534 (by decide +kernel) (by decide +kernel)
theorem tw_495 : (Jvm.Cond.fieldLink "PackSeedsModel" (13 : Nat) "PackSeedsModel" "masks" "[Z") ∈ Gall := gw 535 (by decide +kernel) (by decide +kernel)
theorem tw_496 : (Jvm.Cond.fieldLink "PackSeedsModel" (17 : Nat) "PackSeedsModel" "faults" "[Z") ∈ Gall := gw 536 (by decide +kernel) (by decide +kernel)
theorem tw_497 : (Jvm.Cond.fieldLink "PackSeedsModel" (20 : Nat) "PackSeedsModel" "gone" "[Z") ∈ Gall := gw 537 (by decide +kernel) (by decide +kernel)
theorem tw_498 : (Jvm.Cond.fieldLink "PackSeedsModel" (23 : Nat) "PackSeedsModel" "seeds" "[I") ∈ Gall := gw 538 (by decide +kernel) (by decide +kernel)
theorem tw_499 : (Jvm.Cond.fieldLink "PackSeedsModel" (45 : Nat) "PackSeedsModel" "patterns" "I") ∈ Gall := gw 539 (by decide +kernel) (by decide +kernel)
theorem tw_500 : (Jvm.Cond.fieldLink "PackSeedsModel" (39 : Nat) "PackSeedsModel" "degree" "I") ∈ Gall := gw 540 (by decide +kernel) (by decide +kernel)
theorem tw_501 : (Jvm.Cond.fieldLink "PackSeedsModel" (26 : Nat) "PackSeedsModel" "taps" "[Z") ∈ Gall := gw 541 (by decide +kernel) (by decide +kernel)
theorem tw_502 : (Jvm.Cond.fieldLink "PackSeedsModel" (83 : Nat) "PackSeedsModel" "filling" "I") ∈ Gall := gw 542 (by decide +kernel) (by decide +kernel)
theorem tw_503 : (Jvm.Cond.fieldLink "PackSeedsModel" (29 : Nat) "PackSeedsModel" "basis" "[I") ∈ Gall := gw 543 (by decide +kernel) (by decide +kernel)
theorem tw_504 : (Jvm.Cond.lays "PackSeedsModel" "PackSeedsModel" "thrown" "I") ∈ Gall := gw 544 (by decide +kernel) (by decide +kernel)
theorem tw_506 : (Jvm.Cond.laysFinal "PackSeedsModel" "PackSeedsModel" "chains" "I") ∈ Gall := gw 546 (by decide +kernel) (by decide +kernel)
theorem tw_508 : (Jvm.Cond.laysFinal "PackSeedsModel" "PackSeedsModel" "length" "I") ∈ Gall := gw 548 (by decide +kernel) (by decide +kernel)
theorem tw_510 : (Jvm.Cond.laysFinal "PackSeedsModel" "PackSeedsModel" "cares" "[I") ∈ Gall := gw 550 (by decide +kernel) (by decide +kernel)
theorem tw_512 : (Jvm.Cond.laysFinal "PackSeedsModel" "PackSeedsModel" "masks" "[Z") ∈ Gall := gw 552 (by decide +kernel) (by decide +kernel)
theorem tw_514 : (Jvm.Cond.laysFinal "PackSeedsModel" "PackSeedsModel" "faults" "[Z") ∈ Gall := gw 554 (by decide +kernel) (by decide +kernel)
theorem tw_516 : (Jvm.Cond.laysFinal "PackSeedsModel" "PackSeedsModel" "gone" "[Z") ∈ Gall := gw 556 (by decide +kernel) (by decide +kernel)
theorem tw_518 : (Jvm.Cond.laysFinal "PackSeedsModel" "PackSeedsModel" "seeds" "[I") ∈ Gall := gw 558 (by decide +kernel) (by decide +kernel)
theorem tw_520 : (Jvm.Cond.lays "PackSeedsModel" "PackSeedsModel" "patterns" "I") ∈ Gall := gw 560 (by decide +kernel) (by decide +kernel)
theorem tw_522 : (Jvm.Cond.lays "PackSeedsModel" "PackSeedsModel" "degree" "I") ∈ Gall := gw 562 (by decide +kernel) (by decide +kernel)
theorem tw_524 : (Jvm.Cond.laysFinal "PackSeedsModel" "PackSeedsModel" "taps" "[Z") ∈ Gall := gw 564 (by decide +kernel) (by decide +kernel)
theorem tw_526 : (Jvm.Cond.lays "PackSeedsModel" "PackSeedsModel" "filling" "I") ∈ Gall := gw 566 (by decide +kernel) (by decide +kernel)
theorem tw_528 : (Jvm.Cond.laysFinal "PackSeedsModel" "PackSeedsModel" "basis" "[I") ∈ Gall := gw 568 (by decide +kernel) (by decide +kernel)
theorem tw_531 : (Jvm.Cond.arrayClass Jvm.ClassFile.FieldType.int) ∈ Gall := gw 571 (by decide +kernel) (by decide +kernel)
theorem tw_532 : (Jvm.Cond.arrayClass Jvm.ClassFile.FieldType.boolean) ∈ Gall := gw 572 (by decide +kernel) (by decide +kernel)
theorem tw_533 : (Jvm.Cond.methodLink "PackSeedsLaw" (87 : Nat) ({ cls := "PackSeedsModel", name := "thrown", desc := "()I" } : Jvm.MethodName)) ∈ Gall := gw 573 (by decide +kernel) (by decide +kernel)
theorem tw_534 : (Jvm.Cond.instanceMethod ({ cls := "PackSeedsModel", name := "thrown", desc := "()I" } : Jvm.MethodName)) ∈ Gall := gw 574 (by decide +kernel) (by decide +kernel)
theorem tw_535 : (Jvm.Cond.selects "PackSeedsModel" ({ cls := "PackSeedsModel", name := "thrown", desc := "()I" } : Jvm.MethodName) ({ cls := "PackSeedsModel", name := "thrown", desc := "()I" } : Jvm.MethodName)) ∈ Gall := gw 575 (by decide +kernel) (by decide +kernel)
theorem tw_536 : (Jvm.Cond.code ({ cls := "PackSeedsModel", name := "thrown", desc := "()I" } : Jvm.MethodName) prog_6_method_2_code (1 : Nat) (Option.some Jvm.ClassFile.FieldType.int)) ∈ Gall := gw 576 (by decide +kernel) (by decide +kernel)
theorem tw_537 : (Jvm.Cond.methodLink "PackSeedsLaw" (86 : Nat) ({ cls := "PackSeedsModel", name := "pattern", desc := "()I" } : Jvm.MethodName)) ∈ Gall := gw 577 (by decide +kernel) (by decide +kernel)
theorem tw_538 : (Jvm.Cond.instanceMethod ({ cls := "PackSeedsModel", name := "pattern", desc := "()I" } : Jvm.MethodName)) ∈ Gall := gw 578 (by decide +kernel) (by decide +kernel)
theorem tw_539 : (Jvm.Cond.selects "PackSeedsModel" ({ cls := "PackSeedsModel", name := "pattern", desc := "()I" } : Jvm.MethodName) ({ cls := "PackSeedsModel", name := "pattern", desc := "()I" } : Jvm.MethodName)) ∈ Gall := gw 579 (by decide +kernel) (by decide +kernel)
theorem tw_540 : (Jvm.Cond.code ({ cls := "PackSeedsModel", name := "pattern", desc := "()I" } : Jvm.MethodName) prog_6_method_6_code (2 : Nat) (Option.some Jvm.ClassFile.FieldType.int)) ∈ Gall := gw 580 (by decide +kernel) (by decide +kernel)
theorem tw_541 : (Jvm.Cond.methodLink "PackSeedsLaw" (93 : Nat) ({ cls := "PackSeedsModel", name := "care", desc := "(IIII)Z" } : Jvm.MethodName)) ∈ Gall := gw 581 (by decide +kernel) (by decide +kernel)
theorem tw_542 : (Jvm.Cond.instanceMethod ({ cls := "PackSeedsModel", name := "care", desc := "(IIII)Z" } : Jvm.MethodName)) ∈ Gall := gw 582 (by decide +kernel) (by decide +kernel)
theorem tw_543 : (Jvm.Cond.selects "PackSeedsModel" ({ cls := "PackSeedsModel", name := "care", desc := "(IIII)Z" } : Jvm.MethodName) ({ cls := "PackSeedsModel", name := "care", desc := "(IIII)Z" } : Jvm.MethodName)) ∈ Gall := gw 583 (by decide +kernel) (by decide +kernel)
theorem tw_544 : (Jvm.Cond.code ({ cls := "PackSeedsModel", name := "care", desc := "(IIII)Z" } : Jvm.MethodName) prog_6_method_7_code (7 : Nat) (Option.some Jvm.ClassFile.FieldType.boolean)) ∈ Gall := gw 584 (by decide +kernel) (by decide +kernel)
theorem tw_545 : (Jvm.Cond.methodLink "PackSeedsModel" (48 : Nat) ({ cls := "PackSeedsModel", name := "is", desc := "(I)Z" } : Jvm.MethodName)) ∈ Gall := gw 585 (by decide +kernel) (by decide +kernel)
theorem tw_547 : (Jvm.Cond.instanceMethod ({ cls := "PackSeedsModel", name := "is", desc := "(I)Z" } : Jvm.MethodName)) ∈ Gall := gw 587 (by decide +kernel) (by decide +kernel)
theorem tw_548 : (Jvm.Cond.code ({ cls := "PackSeedsModel", name := "is", desc := "(I)Z" } : Jvm.MethodName) prog_6_method_3_code (2 : Nat) (Option.some Jvm.ClassFile.FieldType.boolean)) ∈ Gall := gw 588 (by decide +kernel) (by decide +kernel)
theorem tw_549 : (Jvm.Cond.methodLink "PackSeedsModel" (52 : Nat) ({ cls := "PackSeedsModel", name := "isCell", desc := "(II)Z" } : Jvm.MethodName)) ∈ Gall := gw 589 (by decide +kernel) (by decide +kernel)
theorem tw_551 : (Jvm.Cond.instanceMethod ({ cls := "PackSeedsModel", name := "isCell", desc := "(II)Z" } : Jvm.MethodName)) ∈ Gall := gw 591 (by decide +kernel) (by decide +kernel)
theorem tw_552 : (Jvm.Cond.code ({ cls := "PackSeedsModel", name := "isCell", desc := "(II)Z" } : Jvm.MethodName) prog_6_method_4_code (3 : Nat) (Option.some Jvm.ClassFile.FieldType.boolean)) ∈ Gall := gw 592 (by decide +kernel) (by decide +kernel)
theorem tw_553 : (Jvm.Cond.methodLink "PackSeedsModel" (56 : Nat) ({ cls := "PackSeedsModel", name := "place", desc := "(III)I" } : Jvm.MethodName)) ∈ Gall := gw 593 (by decide +kernel) (by decide +kernel)
theorem tw_555 : (Jvm.Cond.instanceMethod ({ cls := "PackSeedsModel", name := "place", desc := "(III)I" } : Jvm.MethodName)) ∈ Gall := gw 595 (by decide +kernel) (by decide +kernel)
theorem tw_556 : (Jvm.Cond.code ({ cls := "PackSeedsModel", name := "place", desc := "(III)I" } : Jvm.MethodName) prog_6_method_5_code (4 : Nat) (Option.some Jvm.ClassFile.FieldType.int)) ∈ Gall := gw 596 (by decide +kernel) (by decide +kernel)
theorem tw_557 : (Jvm.Cond.methodLink "PackSeedsLaw" (120 : Nat) ({ cls := "PackSeedsModel", name := "found", desc := "(II)Z" } : Jvm.MethodName)) ∈ Gall := gw 597 (by decide +kernel) (by decide +kernel)
theorem tw_558 : (Jvm.Cond.instanceMethod ({ cls := "PackSeedsModel", name := "found", desc := "(II)Z" } : Jvm.MethodName)) ∈ Gall := gw 598 (by decide +kernel) (by decide +kernel)
theorem tw_559 : (Jvm.Cond.selects "PackSeedsModel" ({ cls := "PackSeedsModel", name := "found", desc := "(II)Z" } : Jvm.MethodName) ({ cls := "PackSeedsModel", name := "found", desc := "(II)Z" } : Jvm.MethodName)) ∈ Gall := gw 599 (by decide +kernel) (by decide +kernel)
theorem tw_560 : (Jvm.Cond.code ({ cls := "PackSeedsModel", name := "found", desc := "(II)Z" } : Jvm.MethodName) prog_6_method_8_code (4 : Nat) (Option.some Jvm.ClassFile.FieldType.boolean)) ∈ Gall := gw 600 (by decide +kernel) (by decide +kernel)
theorem tw_561 : (Jvm.Cond.methodLink "PackSeedsLaw" (130 : Nat) ({ cls := "PackSeedsModel", name := "mask", desc := "(III)Z" } : Jvm.MethodName)) ∈ Gall := gw 601 (by decide +kernel) (by decide +kernel)
theorem tw_562 : (Jvm.Cond.instanceMethod ({ cls := "PackSeedsModel", name := "mask", desc := "(III)Z" } : Jvm.MethodName)) ∈ Gall := gw 602 (by decide +kernel) (by decide +kernel)
theorem tw_563 : (Jvm.Cond.selects "PackSeedsModel" ({ cls := "PackSeedsModel", name := "mask", desc := "(III)Z" } : Jvm.MethodName) ({ cls := "PackSeedsModel", name := "mask", desc := "(III)Z" } : Jvm.MethodName)) ∈ Gall := gw 603 (by decide +kernel) (by decide +kernel)
theorem tw_564 : (Jvm.Cond.code ({ cls := "PackSeedsModel", name := "mask", desc := "(III)Z" } : Jvm.MethodName) prog_6_method_9_code (6 : Nat) (Option.some Jvm.ClassFile.FieldType.boolean)) ∈ Gall := gw 604 (by decide +kernel) (by decide +kernel)
theorem tw_565 : (Jvm.Cond.methodLink "PackSeedsLaw" (97 : Nat) ({ cls := "PackSeedsModel", name := "join", desc := "()I" } : Jvm.MethodName)) ∈ Gall := gw 605 (by decide +kernel) (by decide +kernel)
theorem tw_566 : (Jvm.Cond.instanceMethod ({ cls := "PackSeedsModel", name := "join", desc := "()I" } : Jvm.MethodName)) ∈ Gall := gw 606 (by decide +kernel) (by decide +kernel)
theorem tw_567 : (Jvm.Cond.selects "PackSeedsModel" ({ cls := "PackSeedsModel", name := "join", desc := "()I" } : Jvm.MethodName) ({ cls := "PackSeedsModel", name := "join", desc := "()I" } : Jvm.MethodName)) ∈ Gall := gw 607 (by decide +kernel) (by decide +kernel)
theorem tw_568 : (Jvm.Cond.code ({ cls := "PackSeedsModel", name := "join", desc := "()I" } : Jvm.MethodName) prog_6_method_12_code (4 : Nat) (Option.some Jvm.ClassFile.FieldType.int)) ∈ Gall := gw 608 (by decide +kernel) (by decide +kernel)
theorem tw_569 : (Jvm.Cond.methodLink "PackSeedsModel" (60 : Nat) ({ cls := "PackSeedsModel", name := "goTogether", desc := "(II)Z" } : Jvm.MethodName)) ∈ Gall := gw 609 (by decide +kernel) (by decide +kernel)
theorem tw_571 : (Jvm.Cond.instanceMethod ({ cls := "PackSeedsModel", name := "goTogether", desc := "(II)Z" } : Jvm.MethodName)) ∈ Gall := gw 611 (by decide +kernel) (by decide +kernel)
theorem tw_572 : (Jvm.Cond.code ({ cls := "PackSeedsModel", name := "goTogether", desc := "(II)Z" } : Jvm.MethodName) prog_6_method_10_code (7 : Nat) (Option.some Jvm.ClassFile.FieldType.boolean)) ∈ Gall := gw 612 (by decide +kernel) (by decide +kernel)
theorem tw_573 : (Jvm.Cond.methodLink "PackSeedsModel" (63 : Nat) ({ cls := "PackSeedsModel", name := "left", desc := "()I" } : Jvm.MethodName)) ∈ Gall := gw 613 (by decide +kernel) (by decide +kernel)
theorem tw_575 : (Jvm.Cond.instanceMethod ({ cls := "PackSeedsModel", name := "left", desc := "()I" } : Jvm.MethodName)) ∈ Gall := gw 615 (by decide +kernel) (by decide +kernel)
theorem tw_576 : (Jvm.Cond.code ({ cls := "PackSeedsModel", name := "left", desc := "()I" } : Jvm.MethodName) prog_6_method_11_code (3 : Nat) (Option.some Jvm.ClassFile.FieldType.int)) ∈ Gall := gw 616 (by decide +kernel) (by decide +kernel)
theorem tw_577 : (Jvm.Cond.methodLink "PackSeedsLaw" (124 : Nat) ({ cls := "PackSeedsModel", name := "drop", desc := "()I" } : Jvm.MethodName)) ∈ Gall := gw 617 (by decide +kernel) (by decide +kernel)
theorem tw_578 : (Jvm.Cond.instanceMethod ({ cls := "PackSeedsModel", name := "drop", desc := "()I" } : Jvm.MethodName)) ∈ Gall := gw 618 (by decide +kernel) (by decide +kernel)
theorem tw_579 : (Jvm.Cond.selects "PackSeedsModel" ({ cls := "PackSeedsModel", name := "drop", desc := "()I" } : Jvm.MethodName) ({ cls := "PackSeedsModel", name := "drop", desc := "()I" } : Jvm.MethodName)) ∈ Gall := gw 619 (by decide +kernel) (by decide +kernel)
theorem tw_580 : (Jvm.Cond.code ({ cls := "PackSeedsModel", name := "drop", desc := "()I" } : Jvm.MethodName) prog_6_method_14_code (4 : Nat) (Option.some Jvm.ClassFile.FieldType.int)) ∈ Gall := gw 620 (by decide +kernel) (by decide +kernel)
theorem tw_581 : (Jvm.Cond.methodLink "PackSeedsModel" (67 : Nat) ({ cls := "PackSeedsModel", name := "findersOf", desc := "(I)I" } : Jvm.MethodName)) ∈ Gall := gw 621 (by decide +kernel) (by decide +kernel)
theorem tw_583 : (Jvm.Cond.instanceMethod ({ cls := "PackSeedsModel", name := "findersOf", desc := "(I)I" } : Jvm.MethodName)) ∈ Gall := gw 623 (by decide +kernel) (by decide +kernel)
theorem tw_584 : (Jvm.Cond.code ({ cls := "PackSeedsModel", name := "findersOf", desc := "(I)I" } : Jvm.MethodName) prog_6_method_13_code (4 : Nat) (Option.some Jvm.ClassFile.FieldType.int)) ∈ Gall := gw 624 (by decide +kernel) (by decide +kernel)
theorem tw_585 : (Jvm.Cond.methodLink "PackSeedsLaw" (127 : Nat) ({ cls := "PackSeedsModel", name := "finders", desc := "(I)I" } : Jvm.MethodName)) ∈ Gall := gw 625 (by decide +kernel) (by decide +kernel)
theorem tw_586 : (Jvm.Cond.instanceMethod ({ cls := "PackSeedsModel", name := "finders", desc := "(I)I" } : Jvm.MethodName)) ∈ Gall := gw 626 (by decide +kernel) (by decide +kernel)
theorem tw_587 : (Jvm.Cond.selects "PackSeedsModel" ({ cls := "PackSeedsModel", name := "finders", desc := "(I)I" } : Jvm.MethodName) ({ cls := "PackSeedsModel", name := "finders", desc := "(I)I" } : Jvm.MethodName)) ∈ Gall := gw 627 (by decide +kernel) (by decide +kernel)
theorem tw_588 : (Jvm.Cond.code ({ cls := "PackSeedsModel", name := "finders", desc := "(I)I" } : Jvm.MethodName) prog_6_method_15_code (2 : Nat) (Option.some Jvm.ClassFile.FieldType.int)) ∈ Gall := gw 628 (by decide +kernel) (by decide +kernel)
theorem tw_589 : (Jvm.Cond.methodLink "PackSeedsLaw" (101 : Nat) ({ cls := "PackSeedsModel", name := "degree", desc := "(I)V" } : Jvm.MethodName)) ∈ Gall := gw 629 (by decide +kernel) (by decide +kernel)
theorem tw_590 : (Jvm.Cond.instanceMethod ({ cls := "PackSeedsModel", name := "degree", desc := "(I)V" } : Jvm.MethodName)) ∈ Gall := gw 630 (by decide +kernel) (by decide +kernel)
theorem tw_591 : (Jvm.Cond.selects "PackSeedsModel" ({ cls := "PackSeedsModel", name := "degree", desc := "(I)V" } : Jvm.MethodName) ({ cls := "PackSeedsModel", name := "degree", desc := "(I)V" } : Jvm.MethodName)) ∈ Gall := gw 631 (by decide +kernel) (by decide +kernel)
theorem tw_592 : (Jvm.Cond.code ({ cls := "PackSeedsModel", name := "degree", desc := "(I)V" } : Jvm.MethodName) prog_6_method_17_code (3 : Nat) (Option.none : Option Jvm.ClassFile.FieldType)) ∈ Gall := gw 632 (by decide +kernel) (by decide +kernel)
theorem tw_593 : (Jvm.Cond.methodLink "PackSeedsModel" (71 : Nat) ({ cls := "PackSeedsModel", name := "noSeeds", desc := "()V" } : Jvm.MethodName)) ∈ Gall := gw 633 (by decide +kernel) (by decide +kernel)
theorem tw_595 : (Jvm.Cond.instanceMethod ({ cls := "PackSeedsModel", name := "noSeeds", desc := "()V" } : Jvm.MethodName)) ∈ Gall := gw 635 (by decide +kernel) (by decide +kernel)
theorem tw_596 : (Jvm.Cond.code ({ cls := "PackSeedsModel", name := "noSeeds", desc := "()V" } : Jvm.MethodName) prog_6_method_16_code (2 : Nat) (Option.none : Option Jvm.ClassFile.FieldType)) ∈ Gall := gw 636 (by decide +kernel) (by decide +kernel)
theorem tw_597 : (Jvm.Cond.methodLink "PackSeedsLaw" (105 : Nat) ({ cls := "PackSeedsModel", name := "machine", desc := "(IZ)Z" } : Jvm.MethodName)) ∈ Gall := gw 637 (by decide +kernel) (by decide +kernel)
theorem tw_598 : (Jvm.Cond.instanceMethod ({ cls := "PackSeedsModel", name := "machine", desc := "(IZ)Z" } : Jvm.MethodName)) ∈ Gall := gw 638 (by decide +kernel) (by decide +kernel)
theorem tw_599 : (Jvm.Cond.selects "PackSeedsModel" ({ cls := "PackSeedsModel", name := "machine", desc := "(IZ)Z" } : Jvm.MethodName) ({ cls := "PackSeedsModel", name := "machine", desc := "(IZ)Z" } : Jvm.MethodName)) ∈ Gall := gw 639 (by decide +kernel) (by decide +kernel)
theorem tw_600 : (Jvm.Cond.code ({ cls := "PackSeedsModel", name := "machine", desc := "(IZ)Z" } : Jvm.MethodName) prog_6_method_18_code (3 : Nat) (Option.some Jvm.ClassFile.FieldType.boolean)) ∈ Gall := gw 640 (by decide +kernel) (by decide +kernel)
theorem tw_601 : (Jvm.Cond.methodLink "PackSeedsLaw" (109 : Nat) ({ cls := "PackSeedsModel", name := "seed", desc := "(I)I" } : Jvm.MethodName)) ∈ Gall := gw 641 (by decide +kernel) (by decide +kernel)
theorem tw_602 : (Jvm.Cond.instanceMethod ({ cls := "PackSeedsModel", name := "seed", desc := "(I)I" } : Jvm.MethodName)) ∈ Gall := gw 642 (by decide +kernel) (by decide +kernel)
theorem tw_603 : (Jvm.Cond.selects "PackSeedsModel" ({ cls := "PackSeedsModel", name := "seed", desc := "(I)I" } : Jvm.MethodName) ({ cls := "PackSeedsModel", name := "seed", desc := "(I)I" } : Jvm.MethodName)) ∈ Gall := gw 643 (by decide +kernel) (by decide +kernel)
theorem tw_604 : (Jvm.Cond.code ({ cls := "PackSeedsModel", name := "seed", desc := "(I)I" } : Jvm.MethodName) prog_6_method_22_code (3 : Nat) (Option.some Jvm.ClassFile.FieldType.int)) ∈ Gall := gw 644 (by decide +kernel) (by decide +kernel)
theorem tw_605 : (Jvm.Cond.methodLink "PackSeedsModel" (77 : Nat) ({ cls := "PackSeedsModel", name := "makes", desc := "(II)Z" } : Jvm.MethodName)) ∈ Gall := gw 645 (by decide +kernel) (by decide +kernel)
theorem tw_607 : (Jvm.Cond.instanceMethod ({ cls := "PackSeedsModel", name := "makes", desc := "(II)Z" } : Jvm.MethodName)) ∈ Gall := gw 647 (by decide +kernel) (by decide +kernel)
theorem tw_608 : (Jvm.Cond.code ({ cls := "PackSeedsModel", name := "makes", desc := "(II)Z" } : Jvm.MethodName) prog_6_method_21_code (7 : Nat) (Option.some Jvm.ClassFile.FieldType.boolean)) ∈ Gall := gw 648 (by decide +kernel) (by decide +kernel)
theorem tw_609 : (Jvm.Cond.methodLink "PackSeedsModel" (74 : Nat) ({ cls := "PackSeedsModel", name := "step", desc := "(I)I" } : Jvm.MethodName)) ∈ Gall := gw 649 (by decide +kernel) (by decide +kernel)
theorem tw_611 : (Jvm.Cond.instanceMethod ({ cls := "PackSeedsModel", name := "step", desc := "(I)I" } : Jvm.MethodName)) ∈ Gall := gw 651 (by decide +kernel) (by decide +kernel)
theorem tw_612 : (Jvm.Cond.code ({ cls := "PackSeedsModel", name := "step", desc := "(I)I" } : Jvm.MethodName) prog_6_method_19_code (4 : Nat) (Option.some Jvm.ClassFile.FieldType.int)) ∈ Gall := gw 652 (by decide +kernel) (by decide +kernel)
theorem tw_613 : (Jvm.Cond.methodLink "PackSeedsLaw" (112 : Nat) ({ cls := "PackSeedsModel", name := "seedOf", desc := "(I)I" } : Jvm.MethodName)) ∈ Gall := gw 653 (by decide +kernel) (by decide +kernel)
theorem tw_614 : (Jvm.Cond.instanceMethod ({ cls := "PackSeedsModel", name := "seedOf", desc := "(I)I" } : Jvm.MethodName)) ∈ Gall := gw 654 (by decide +kernel) (by decide +kernel)
theorem tw_615 : (Jvm.Cond.selects "PackSeedsModel" ({ cls := "PackSeedsModel", name := "seedOf", desc := "(I)I" } : Jvm.MethodName) ({ cls := "PackSeedsModel", name := "seedOf", desc := "(I)I" } : Jvm.MethodName)) ∈ Gall := gw 655 (by decide +kernel) (by decide +kernel)
theorem tw_616 : (Jvm.Cond.code ({ cls := "PackSeedsModel", name := "seedOf", desc := "(I)I" } : Jvm.MethodName) prog_6_method_23_code (2 : Nat) (Option.some Jvm.ClassFile.FieldType.int)) ∈ Gall := gw 656 (by decide +kernel) (by decide +kernel)
theorem tw_617 : (Jvm.Cond.methodLink "PackSeedsLaw" (116 : Nat) ({ cls := "PackSeedsModel", name := "bit", desc := "(III)I" } : Jvm.MethodName)) ∈ Gall := gw 657 (by decide +kernel) (by decide +kernel)
theorem tw_618 : (Jvm.Cond.instanceMethod ({ cls := "PackSeedsModel", name := "bit", desc := "(III)I" } : Jvm.MethodName)) ∈ Gall := gw 658 (by decide +kernel) (by decide +kernel)
theorem tw_619 : (Jvm.Cond.selects "PackSeedsModel" ({ cls := "PackSeedsModel", name := "bit", desc := "(III)I" } : Jvm.MethodName) ({ cls := "PackSeedsModel", name := "bit", desc := "(III)I" } : Jvm.MethodName)) ∈ Gall := gw 659 (by decide +kernel) (by decide +kernel)
theorem tw_620 : (Jvm.Cond.code ({ cls := "PackSeedsModel", name := "bit", desc := "(III)I" } : Jvm.MethodName) prog_6_method_25_code (4 : Nat) (Option.some Jvm.ClassFile.FieldType.int)) ∈ Gall := gw 660 (by decide +kernel) (by decide +kernel)
theorem tw_621 : (Jvm.Cond.methodLink "PackSeedsModel" (86 : Nat) ({ cls := "PackSeedsModel", name := "bitOf", desc := "(III)I" } : Jvm.MethodName)) ∈ Gall := gw 661 (by decide +kernel) (by decide +kernel)
theorem tw_623 : (Jvm.Cond.instanceMethod ({ cls := "PackSeedsModel", name := "bitOf", desc := "(III)I" } : Jvm.MethodName)) ∈ Gall := gw 663 (by decide +kernel) (by decide +kernel)
theorem tw_624 : (Jvm.Cond.code ({ cls := "PackSeedsModel", name := "bitOf", desc := "(III)I" } : Jvm.MethodName) prog_6_method_24_code (6 : Nat) (Option.some Jvm.ClassFile.FieldType.int)) ∈ Gall := gw 664 (by decide +kernel) (by decide +kernel)
theorem tw_625 : (Jvm.Cond.methodLink "PackSeedsModel" (80 : Nat) ({ cls := "PackSeedsModel", name := "brought", desc := "(III)I" } : Jvm.MethodName)) ∈ Gall := gw 665 (by decide +kernel) (by decide +kernel)
theorem tw_627 : (Jvm.Cond.instanceMethod ({ cls := "PackSeedsModel", name := "brought", desc := "(III)I" } : Jvm.MethodName)) ∈ Gall := gw 667 (by decide +kernel) (by decide +kernel)
theorem tw_628 : (Jvm.Cond.code ({ cls := "PackSeedsModel", name := "brought", desc := "(III)I" } : Jvm.MethodName) prog_6_method_20_code (6 : Nat) (Option.some Jvm.ClassFile.FieldType.int)) ∈ Gall := gw 668 (by decide +kernel) (by decide +kernel)
theorem tw_629 : (Jvm.Cond.methodLink "PackSeedsLaw" (144 : Nat) ({ cls := "PackSeedsModel", name := "fill", desc := "(I)Z" } : Jvm.MethodName)) ∈ Gall := gw 669 (by decide +kernel) (by decide +kernel)
theorem tw_630 : (Jvm.Cond.instanceMethod ({ cls := "PackSeedsModel", name := "fill", desc := "(I)Z" } : Jvm.MethodName)) ∈ Gall := gw 670 (by decide +kernel) (by decide +kernel)
theorem tw_631 : (Jvm.Cond.selects "PackSeedsModel" ({ cls := "PackSeedsModel", name := "fill", desc := "(I)Z" } : Jvm.MethodName) ({ cls := "PackSeedsModel", name := "fill", desc := "(I)Z" } : Jvm.MethodName)) ∈ Gall := gw 671 (by decide +kernel) (by decide +kernel)
theorem tw_632 : (Jvm.Cond.code ({ cls := "PackSeedsModel", name := "fill", desc := "(I)Z" } : Jvm.MethodName) prog_6_method_26_code (3 : Nat) (Option.some Jvm.ClassFile.FieldType.boolean)) ∈ Gall := gw 672 (by decide +kernel) (by decide +kernel)
theorem tw_633 : (Jvm.Cond.methodLink "PackSeedsLaw" (147 : Nat) ({ cls := "PackSeedsModel", name := "shifts", desc := "(I)J" } : Jvm.MethodName)) ∈ Gall := gw 673 (by decide +kernel) (by decide +kernel)
theorem tw_634 : (Jvm.Cond.instanceMethod ({ cls := "PackSeedsModel", name := "shifts", desc := "(I)J" } : Jvm.MethodName)) ∈ Gall := gw 674 (by decide +kernel) (by decide +kernel)
theorem tw_635 : (Jvm.Cond.selects "PackSeedsModel" ({ cls := "PackSeedsModel", name := "shifts", desc := "(I)J" } : Jvm.MethodName) ({ cls := "PackSeedsModel", name := "shifts", desc := "(I)J" } : Jvm.MethodName)) ∈ Gall := gw 675 (by decide +kernel) (by decide +kernel)
theorem tw_636 : (Jvm.Cond.code ({ cls := "PackSeedsModel", name := "shifts", desc := "(I)J" } : Jvm.MethodName) prog_6_method_27_code (6 : Nat) (Option.some Jvm.ClassFile.FieldType.long)) ∈ Gall := gw 676 (by decide +kernel) (by decide +kernel)
theorem tw_637 : (Jvm.Cond.methodLink "PackSeedsLaw" (133 : Nat) ({ cls := "PackSeedsModel", name := "signature", desc := "(II)J" } : Jvm.MethodName)) ∈ Gall := gw 677 (by decide +kernel) (by decide +kernel)
theorem tw_638 : (Jvm.Cond.instanceMethod ({ cls := "PackSeedsModel", name := "signature", desc := "(II)J" } : Jvm.MethodName)) ∈ Gall := gw 678 (by decide +kernel) (by decide +kernel)
theorem tw_639 : (Jvm.Cond.selects "PackSeedsModel" ({ cls := "PackSeedsModel", name := "signature", desc := "(II)J" } : Jvm.MethodName) ({ cls := "PackSeedsModel", name := "signature", desc := "(II)J" } : Jvm.MethodName)) ∈ Gall := gw 679 (by decide +kernel) (by decide +kernel)
theorem tw_640 : (Jvm.Cond.code ({ cls := "PackSeedsModel", name := "signature", desc := "(II)J" } : Jvm.MethodName) prog_6_method_28_code (8 : Nat) (Option.some Jvm.ClassFile.FieldType.long)) ∈ Gall := gw 680 (by decide +kernel) (by decide +kernel)
theorem tw_641 : (Jvm.Cond.methodLink "PackSeedsLaw" (138 : Nat) ({ cls := "PackSeedsModel", name := "primitive", desc := "()Z" } : Jvm.MethodName)) ∈ Gall := gw 681 (by decide +kernel) (by decide +kernel)
theorem tw_642 : (Jvm.Cond.instanceMethod ({ cls := "PackSeedsModel", name := "primitive", desc := "()Z" } : Jvm.MethodName)) ∈ Gall := gw 682 (by decide +kernel) (by decide +kernel)
theorem tw_643 : (Jvm.Cond.selects "PackSeedsModel" ({ cls := "PackSeedsModel", name := "primitive", desc := "()Z" } : Jvm.MethodName) ({ cls := "PackSeedsModel", name := "primitive", desc := "()Z" } : Jvm.MethodName)) ∈ Gall := gw 683 (by decide +kernel) (by decide +kernel)
theorem tw_644 : (Jvm.Cond.code ({ cls := "PackSeedsModel", name := "primitive", desc := "()Z" } : Jvm.MethodName) prog_6_method_29_code (3 : Nat) (Option.some Jvm.ClassFile.FieldType.boolean)) ∈ Gall := gw 684 (by decide +kernel) (by decide +kernel)
theorem tw_645 : (Jvm.Cond.methodLink "PackSeedsLaw" (141 : Nat) ({ cls := "PackSeedsModel", name := "alias", desc := "(II)J" } : Jvm.MethodName)) ∈ Gall := gw 685 (by decide +kernel) (by decide +kernel)
theorem tw_646 : (Jvm.Cond.instanceMethod ({ cls := "PackSeedsModel", name := "alias", desc := "(II)J" } : Jvm.MethodName)) ∈ Gall := gw 686 (by decide +kernel) (by decide +kernel)
theorem tw_647 : (Jvm.Cond.selects "PackSeedsModel" ({ cls := "PackSeedsModel", name := "alias", desc := "(II)J" } : Jvm.MethodName) ({ cls := "PackSeedsModel", name := "alias", desc := "(II)J" } : Jvm.MethodName)) ∈ Gall := gw 687 (by decide +kernel) (by decide +kernel)
theorem tw_648 : (Jvm.Cond.code ({ cls := "PackSeedsModel", name := "alias", desc := "(II)J" } : Jvm.MethodName) prog_6_method_31_code (13 : Nat) (Option.some Jvm.ClassFile.FieldType.long)) ∈ Gall := gw 688 (by decide +kernel) (by decide +kernel)
theorem tw_649 : (Jvm.Cond.methodLink "PackSeedsModel" (89 : Nat) ({ cls := "PackSeedsModel", name := "rank", desc := "(I)I" } : Jvm.MethodName)) ∈ Gall := gw 689 (by decide +kernel) (by decide +kernel)
theorem tw_651 : (Jvm.Cond.instanceMethod ({ cls := "PackSeedsModel", name := "rank", desc := "(I)I" } : Jvm.MethodName)) ∈ Gall := gw 691 (by decide +kernel) (by decide +kernel)
theorem tw_652 : (Jvm.Cond.code ({ cls := "PackSeedsModel", name := "rank", desc := "(I)I" } : Jvm.MethodName) prog_6_method_30_code (7 : Nat) (Option.some Jvm.ClassFile.FieldType.int)) ∈ Gall := gw 692 (by decide +kernel) (by decide +kernel)
theorem tw_653 : (Jvm.Cond.methodLink "PackSeedsLaw" (150 : Nat) ({ cls := "PackSeedsModel", name := "count", desc := "(I)I" } : Jvm.MethodName)) ∈ Gall := gw 693 (by decide +kernel) (by decide +kernel)
theorem tw_654 : (Jvm.Cond.instanceMethod ({ cls := "PackSeedsModel", name := "count", desc := "(I)I" } : Jvm.MethodName)) ∈ Gall := gw 694 (by decide +kernel) (by decide +kernel)
theorem tw_655 : (Jvm.Cond.selects "PackSeedsModel" ({ cls := "PackSeedsModel", name := "count", desc := "(I)I" } : Jvm.MethodName) ({ cls := "PackSeedsModel", name := "count", desc := "(I)I" } : Jvm.MethodName)) ∈ Gall := gw 695 (by decide +kernel) (by decide +kernel)
theorem tw_656 : (Jvm.Cond.code ({ cls := "PackSeedsModel", name := "count", desc := "(I)I" } : Jvm.MethodName) prog_6_method_32_code (5 : Nat) (Option.some Jvm.ClassFile.FieldType.int)) ∈ Gall := gw 696 (by decide +kernel) (by decide +kernel)
theorem ts_0 : Cond.selects "PackSeeds" ⟨"PackSeeds", "presentOrNull", "(I)LPackSeeds$Pattern;"⟩ ⟨"PackSeeds", "presentOrNull", "(I)LPackSeeds$Pattern;"⟩ ∈ Gall := gw 0 (by decide +kernel) (by decide +kernel)
theorem ts_1 : Cond.selects "PackSeeds" ⟨"PackSeeds", "takeFromBehind", "(LPackSeeds$Pattern;I)V"⟩ ⟨"PackSeeds", "takeFromBehind", "(LPackSeeds$Pattern;I)V"⟩ ∈ Gall := gw 1 (by decide +kernel) (by decide +kernel)
theorem ts_2 : Cond.selects "PackSeeds$Pattern" ⟨"PackSeeds$Pattern", "goesWith", "(LPackSeeds$Pattern;)Z"⟩ ⟨"PackSeeds$Pattern", "goesWith", "(LPackSeeds$Pattern;)Z"⟩ ∈ Gall := gw 2 (by decide +kernel) (by decide +kernel)
theorem ts_3 : Cond.selects "PackSeeds$Pattern" ⟨"PackSeeds$Pattern", "take", "(LPackSeeds$Pattern;)V"⟩ ⟨"PackSeeds$Pattern", "take", "(LPackSeeds$Pattern;)V"⟩ ∈ Gall := gw 3 (by decide +kernel) (by decide +kernel)
theorem ts_4 : Cond.selects "PackSeeds" ⟨"PackSeeds", "countPresent", "()I"⟩ ⟨"PackSeeds", "countPresent", "()I"⟩ ∈ Gall := gw 4 (by decide +kernel) (by decide +kernel)
theorem ts_5 : Cond.selects "PackSeeds" ⟨"PackSeeds", "faultsOfAllBut", "(I)I"⟩ ⟨"PackSeeds", "faultsOfAllBut", "(I)I"⟩ ∈ Gall := gw 5 (by decide +kernel) (by decide +kernel)
theorem ts_6 : Cond.selects "PackSeeds$Machine" ⟨"PackSeeds$Machine", "hasLongestCycle", "()Z"⟩ ⟨"PackSeeds$Machine", "hasLongestCycle", "()Z"⟩ ∈ Gall := gw 6 (by decide +kernel) (by decide +kernel)
theorem ts_7 : Cond.selects "PackSeeds$Machine" ⟨"PackSeeds$Machine", "step", "(I)I"⟩ ⟨"PackSeeds$Machine", "step", "(I)I"⟩ ∈ Gall := gw 7 (by decide +kernel) (by decide +kernel)
theorem ts_8 : Cond.selects "java/lang/Throwable" ⟨"java/lang/Throwable", "fillInStackTrace", "(I)Ljava/lang/Throwable;"⟩ ⟨"java/lang/Throwable", "fillInStackTrace", "(I)Ljava/lang/Throwable;"⟩ ∈ Gall := gw 8 (by decide +kernel) (by decide +kernel)
theorem ts_9 : Cond.selects "PackSeeds" ⟨"PackSeeds", "present", "(I)LPackSeeds$Pattern;"⟩ ⟨"PackSeeds", "present", "(I)LPackSeeds$Pattern;"⟩ ∈ Gall := gw 9 (by decide +kernel) (by decide +kernel)
theorem ts_10 : Cond.selects "PackSeeds" ⟨"PackSeeds", "existingPlace", "(II)I"⟩ ⟨"PackSeeds", "existingPlace", "(II)I"⟩ ∈ Gall := gw 10 (by decide +kernel) (by decide +kernel)
theorem ts_11 : Cond.selects "PackSeeds$Pattern" ⟨"PackSeeds$Pattern", "setCare", "(II)Z"⟩ ⟨"PackSeeds$Pattern", "setCare", "(II)Z"⟩ ∈ Gall := gw 11 (by decide +kernel) (by decide +kernel)
theorem ts_12 : Cond.selects "PackSeeds$Pattern" ⟨"PackSeeds$Pattern", "careAt", "(I)I"⟩ ⟨"PackSeeds$Pattern", "careAt", "(I)I"⟩ ∈ Gall := gw 12 (by decide +kernel) (by decide +kernel)
theorem ts_13 : Cond.selects "PackSeeds$Machine" ⟨"PackSeeds$Machine", "restart", "(I)V"⟩ ⟨"PackSeeds$Machine", "restart", "(I)V"⟩ ∈ Gall := gw 13 (by decide +kernel) (by decide +kernel)
theorem ts_14 : Cond.selects "PackSeeds" ⟨"PackSeeds", "forgetSeeds", "()V"⟩ ⟨"PackSeeds", "forgetSeeds", "()V"⟩ ∈ Gall := gw 14 (by decide +kernel) (by decide +kernel)
theorem ts_15 : Cond.selects "PackSeeds$Machine" ⟨"PackSeeds$Machine", "isTapped", "(I)Z"⟩ ⟨"PackSeeds$Machine", "isTapped", "(I)Z"⟩ ∈ Gall := gw 15 (by decide +kernel) (by decide +kernel)
theorem ts_16 : Cond.selects "PackSeeds$Machine" ⟨"PackSeeds$Machine", "turnTap", "(I)V"⟩ ⟨"PackSeeds$Machine", "turnTap", "(I)V"⟩ ∈ Gall := gw 16 (by decide +kernel) (by decide +kernel)
theorem ts_17 : Cond.selects "PackSeeds$Machine" ⟨"PackSeeds$Machine", "leastSeed", "(II)I"⟩ ⟨"PackSeeds$Machine", "leastSeed", "(II)I"⟩ ∈ Gall := gw 17 (by decide +kernel) (by decide +kernel)
theorem ts_18 : Cond.selects "PackSeeds$Machine" ⟨"PackSeeds$Machine", "make", "(I)I"⟩ ⟨"PackSeeds$Machine", "make", "(I)I"⟩ ∈ Gall := gw 18 (by decide +kernel) (by decide +kernel)
theorem ts_19 : Cond.selects "PackSeeds$Machine" ⟨"PackSeeds$Machine", "stageAround", "(I)I"⟩ ⟨"PackSeeds$Machine", "stageAround", "(I)I"⟩ ∈ Gall := gw 19 (by decide +kernel) (by decide +kernel)
theorem ts_20 : Cond.selects "PackSeeds$Machine" ⟨"PackSeeds$Machine", "reduced", "(J)J"⟩ ⟨"PackSeeds$Machine", "reduced", "(J)J"⟩ ∈ Gall := gw 20 (by decide +kernel) (by decide +kernel)
theorem ts_21 : Cond.selects "PackSeeds$Machine" ⟨"PackSeeds$Machine", "keep", "(J)V"⟩ ⟨"PackSeeds$Machine", "keep", "(J)V"⟩ ∈ Gall := gw 21 (by decide +kernel) (by decide +kernel)
theorem ts_22 : Cond.selects "PackSeeds" ⟨"PackSeeds", "bitsOf", "(LPackSeeds$Pattern;)I"⟩ ⟨"PackSeeds", "bitsOf", "(LPackSeeds$Pattern;)I"⟩ ∈ Gall := gw 22 (by decide +kernel) (by decide +kernel)
theorem ts_23 : Cond.selects "PackSeeds" ⟨"PackSeeds", "filledFromNearest", "(LPackSeeds$Pattern;)I"⟩ ⟨"PackSeeds", "filledFromNearest", "(LPackSeeds$Pattern;)I"⟩ ∈ Gall := gw 23 (by decide +kernel) (by decide +kernel)
theorem ts_24 : Cond.selects "PackSeeds" ⟨"PackSeeds", "nearestCare", "(LPackSeeds$Pattern;II)I"⟩ ⟨"PackSeeds", "nearestCare", "(LPackSeeds$Pattern;II)I"⟩ ∈ Gall := gw 24 (by decide +kernel) (by decide +kernel)
theorem ts_25 : Cond.selects "PackSeeds$Machine" ⟨"PackSeeds$Machine", "takeIn", "(II)I"⟩ ⟨"PackSeeds$Machine", "takeIn", "(II)I"⟩ ∈ Gall := gw 25 (by decide +kernel) (by decide +kernel)
theorem ts_26 : Cond.selects "PackSeeds" ⟨"PackSeeds", "countSeeded", "()I"⟩ ⟨"PackSeeds", "countSeeded", "()I"⟩ ∈ Gall := gw 26 (by decide +kernel) (by decide +kernel)
theorem ts_27 : Cond.selects "PackSeeds" ⟨"PackSeeds", "countCared", "()I"⟩ ⟨"PackSeeds", "countCared", "()I"⟩ ∈ Gall := gw 27 (by decide +kernel) (by decide +kernel)
theorem ts_28 : Cond.selects "PackSeedsModel" ⟨"PackSeedsModel", "is", "(I)Z"⟩ ⟨"PackSeedsModel", "is", "(I)Z"⟩ ∈ Gall := gw 28 (by decide +kernel) (by decide +kernel)
theorem ts_29 : Cond.selects "PackSeedsModel" ⟨"PackSeedsModel", "isCell", "(II)Z"⟩ ⟨"PackSeedsModel", "isCell", "(II)Z"⟩ ∈ Gall := gw 29 (by decide +kernel) (by decide +kernel)
theorem ts_30 : Cond.selects "PackSeedsModel" ⟨"PackSeedsModel", "place", "(III)I"⟩ ⟨"PackSeedsModel", "place", "(III)I"⟩ ∈ Gall := gw 30 (by decide +kernel) (by decide +kernel)
theorem ts_31 : Cond.selects "PackSeedsModel" ⟨"PackSeedsModel", "goTogether", "(II)Z"⟩ ⟨"PackSeedsModel", "goTogether", "(II)Z"⟩ ∈ Gall := gw 31 (by decide +kernel) (by decide +kernel)
theorem ts_32 : Cond.selects "PackSeedsModel" ⟨"PackSeedsModel", "left", "()I"⟩ ⟨"PackSeedsModel", "left", "()I"⟩ ∈ Gall := gw 32 (by decide +kernel) (by decide +kernel)
theorem ts_33 : Cond.selects "PackSeedsModel" ⟨"PackSeedsModel", "findersOf", "(I)I"⟩ ⟨"PackSeedsModel", "findersOf", "(I)I"⟩ ∈ Gall := gw 33 (by decide +kernel) (by decide +kernel)
theorem ts_34 : Cond.selects "PackSeedsModel" ⟨"PackSeedsModel", "noSeeds", "()V"⟩ ⟨"PackSeedsModel", "noSeeds", "()V"⟩ ∈ Gall := gw 34 (by decide +kernel) (by decide +kernel)
theorem ts_35 : Cond.selects "PackSeedsModel" ⟨"PackSeedsModel", "makes", "(II)Z"⟩ ⟨"PackSeedsModel", "makes", "(II)Z"⟩ ∈ Gall := gw 35 (by decide +kernel) (by decide +kernel)
theorem ts_36 : Cond.selects "PackSeedsModel" ⟨"PackSeedsModel", "step", "(I)I"⟩ ⟨"PackSeedsModel", "step", "(I)I"⟩ ∈ Gall := gw 36 (by decide +kernel) (by decide +kernel)
theorem ts_37 : Cond.selects "PackSeedsModel" ⟨"PackSeedsModel", "bitOf", "(III)I"⟩ ⟨"PackSeedsModel", "bitOf", "(III)I"⟩ ∈ Gall := gw 37 (by decide +kernel) (by decide +kernel)
theorem ts_38 : Cond.selects "PackSeedsModel" ⟨"PackSeedsModel", "brought", "(III)I"⟩ ⟨"PackSeedsModel", "brought", "(III)I"⟩ ∈ Gall := gw 38 (by decide +kernel) (by decide +kernel)
theorem ts_39 : Cond.selects "PackSeedsModel" ⟨"PackSeedsModel", "rank", "(I)I"⟩ ⟨"PackSeedsModel", "rank", "(I)I"⟩ ∈ Gall := gw 39 (by decide +kernel) (by decide +kernel)
/-- the links to private members of nest mates -/
def gNw : List Cond := [(Jvm.Cond.methodLinkNest "PackSeeds" (9 : Nat) ({ cls := "PackSeeds$Shape", name := "<init>", desc := "(II)V" } : Jvm.MethodName) "PackSeeds"), (Jvm.Cond.fieldLinkNest "PackSeeds$Machine" (37 : Nat) "PackSeeds$Shape" "chains" "I" "PackSeeds"), (Jvm.Cond.fieldLinkNest "PackSeeds" (162 : Nat) "PackSeeds$Shape" "chains" "I" "PackSeeds"), (Jvm.Cond.fieldLinkNest "PackSeeds$Machine" (32 : Nat) "PackSeeds$Shape" "cells" "I" "PackSeeds"), (Jvm.Cond.fieldLinkNest "PackSeeds" (165 : Nat) "PackSeeds$Shape" "cells" "I" "PackSeeds"), (Jvm.Cond.methodLinkNest "PackSeeds" (20 : Nat) ({ cls := "PackSeeds$Machine", name := "<init>", desc := "(LPackSeeds$Shape;)V" } : Jvm.MethodName) "PackSeeds"), (Jvm.Cond.fieldLinkNest "PackSeeds" (85 : Nat) "PackSeeds$Machine" "stages" "I" "PackSeeds"), (Jvm.Cond.methodLinkNest "PackSeeds" (190 : Nat) ({ cls := "PackSeeds$Pattern", name := "goesWith", desc := "(LPackSeeds$Pattern;)Z" } : Jvm.MethodName) "PackSeeds"), (Jvm.Cond.methodLinkNest "PackSeeds" (194 : Nat) ({ cls := "PackSeeds$Pattern", name := "take", desc := "(LPackSeeds$Pattern;)V" } : Jvm.MethodName) "PackSeeds"), (Jvm.Cond.methodLinkNest "PackSeeds" (145 : Nat) ({ cls := "PackSeeds$Machine", name := "hasLongestCycle", desc := "()Z" } : Jvm.MethodName) "PackSeeds"), (Jvm.Cond.castable "java/lang/UnsupportedOperationException" "java/lang/UnsupportedOperationException"), (Jvm.Cond.declares ({ cls := "java/lang/RuntimeException", name := "<init>", desc := "()V" } : Jvm.MethodName)), (Jvm.Cond.declares ({ cls := "java/lang/RuntimeException", name := "<init>", desc := "(Ljava/lang/String;)V" } : Jvm.MethodName)), (Jvm.Cond.declares ({ cls := "java/lang/Exception", name := "<init>", desc := "()V" } : Jvm.MethodName)), (Jvm.Cond.declares ({ cls := "java/lang/Exception", name := "<init>", desc := "(Ljava/lang/String;)V" } : Jvm.MethodName)), (Jvm.Cond.declares ({ cls := "java/lang/Throwable", name := "<init>", desc := "()V" } : Jvm.MethodName)), (Jvm.Cond.declares ({ cls := "java/lang/Throwable", name := "<init>", desc := "(Ljava/lang/String;)V" } : Jvm.MethodName)), (Jvm.Cond.methodLinkNest "PackSeeds" (47 : Nat) ({ cls := "PackSeeds$Pattern", name := "<init>", desc := "()V" } : Jvm.MethodName) "PackSeeds"), (Jvm.Cond.fieldLinkNest "PackSeeds" (102 : Nat) "PackSeeds$Pattern" "cared" "I" "PackSeeds"), (Jvm.Cond.fieldLinkNest "PackSeeds" (105 : Nat) "PackSeeds$Pattern" "values" "I" "PackSeeds"), (Jvm.Cond.fieldLinkNest "PackSeeds" (132 : Nat) "PackSeeds$Pattern" "masked" "I" "PackSeeds"), (Jvm.Cond.fieldLinkNest "PackSeeds" (122 : Nat) "PackSeeds$Pattern" "faults" "I" "PackSeeds"), (Jvm.Cond.fieldLinkNest "PackSeeds" (111 : Nat) "PackSeeds$Pattern" "seed" "I" "PackSeeds"), (Jvm.Cond.fieldLinkNest "PackSeeds" (128 : Nat) "PackSeeds$Pattern" "gone" "Z" "PackSeeds"), (Jvm.Cond.castable "java/lang/IndexOutOfBoundsException" "java/lang/IndexOutOfBoundsException"), (Jvm.Cond.castable "java/lang/IllegalArgumentException" "java/lang/IllegalArgumentException"), (Jvm.Cond.methodLinkNest "PackSeeds" (61 : Nat) ({ cls := "PackSeeds$Pattern", name := "setCare", desc := "(II)Z" } : Jvm.MethodName) "PackSeeds"), (Jvm.Cond.methodLinkNest "PackSeeds" (78 : Nat) ({ cls := "PackSeeds$Machine", name := "restart", desc := "(I)V" } : Jvm.MethodName) "PackSeeds"), (Jvm.Cond.methodLinkNest "PackSeeds" (95 : Nat) ({ cls := "PackSeeds$Machine", name := "isTapped", desc := "(I)Z" } : Jvm.MethodName) "PackSeeds"), (Jvm.Cond.methodLinkNest "PackSeeds" (99 : Nat) ({ cls := "PackSeeds$Machine", name := "turnTap", desc := "(I)V" } : Jvm.MethodName) "PackSeeds"), (Jvm.Cond.methodLinkNest "PackSeeds" (108 : Nat) ({ cls := "PackSeeds$Machine", name := "leastSeed", desc := "(II)I" } : Jvm.MethodName) "PackSeeds"), (Jvm.Cond.methodLinkNest "PackSeeds$Machine" (43 : Nat) ({ cls := "PackSeeds", name := "place", desc := "(II)I" } : Jvm.MethodName) "PackSeeds"), (Jvm.Cond.methodLinkNest "PackSeeds" (198 : Nat) ({ cls := "PackSeeds$Machine", name := "make", desc := "(I)I" } : Jvm.MethodName) "PackSeeds"), (Jvm.Cond.methodLinkNest "PackSeeds" (208 : Nat) ({ cls := "PackSeeds$Pattern", name := "careAt", desc := "(I)I" } : Jvm.MethodName) "PackSeeds"), (Jvm.Cond.methodLinkNest "PackSeeds" (142 : Nat) ({ cls := "PackSeeds$Machine", name := "takeIn", desc := "(II)I" } : Jvm.MethodName) "PackSeeds")]
def gNest (U : State) : Prop := ∀ w ∈ gNw, va_Nw w U
theorem gNw_in : ∀ w ∈ gNw, w ∈ lw_tbl := by decide +kernel
theorem gNw_on : ∀ w ∈ gNw, w.onTables = true := by decide +kernel
theorem gNest.warm {s U : State} (hW : s.WarmedH U.vm) (h : gNest s) : gNest U := by
  intro w hw
  have h1 := h w hw
  simp only [gNw, List.mem_cons, List.not_mem_nil, or_false] at hw
  rcases hw with rfl | rfl | rfl | rfl | rfl | rfl | rfl | rfl | rfl | rfl | rfl | rfl | rfl | rfl | rfl | rfl | rfl | rfl | rfl | rfl | rfl | rfl | rfl | rfl | rfl | rfl | rfl | rfl | rfl | rfl | rfl | rfl | rfl | rfl | rfl <;> first | exact va_Nw.warmF hW h1 | exact va_Nw.warmM hW h1 | exact va_Nw.warmD hW h1 | exact va_Nw.warmC hW h1
theorem gNest.same {s U : State} (hv : s.vm = U.vm) (h : gNest s) : gNest U := fun w hw => va_Nw.same (gNw_on w hw) hv (h w hw)
theorem nw_0 : (Jvm.Cond.methodLinkNest "PackSeeds" (9 : Nat) ({ cls := "PackSeeds$Shape", name := "<init>", desc := "(II)V" } : Jvm.MethodName) "PackSeeds") ∈ gNw := List.mem_of_getElem? (i := 0) (by decide +kernel)
theorem nw_1 : (Jvm.Cond.fieldLinkNest "PackSeeds$Machine" (37 : Nat) "PackSeeds$Shape" "chains" "I" "PackSeeds") ∈ gNw := List.mem_of_getElem? (i := 1) (by decide +kernel)
theorem nw_2 : (Jvm.Cond.fieldLinkNest "PackSeeds" (162 : Nat) "PackSeeds$Shape" "chains" "I" "PackSeeds") ∈ gNw := List.mem_of_getElem? (i := 2) (by decide +kernel)
theorem nw_3 : (Jvm.Cond.fieldLinkNest "PackSeeds$Machine" (32 : Nat) "PackSeeds$Shape" "cells" "I" "PackSeeds") ∈ gNw := List.mem_of_getElem? (i := 3) (by decide +kernel)
theorem nw_4 : (Jvm.Cond.fieldLinkNest "PackSeeds" (165 : Nat) "PackSeeds$Shape" "cells" "I" "PackSeeds") ∈ gNw := List.mem_of_getElem? (i := 4) (by decide +kernel)
theorem nw_5 : (Jvm.Cond.methodLinkNest "PackSeeds" (20 : Nat) ({ cls := "PackSeeds$Machine", name := "<init>", desc := "(LPackSeeds$Shape;)V" } : Jvm.MethodName) "PackSeeds") ∈ gNw := List.mem_of_getElem? (i := 5) (by decide +kernel)
theorem nw_6 : (Jvm.Cond.fieldLinkNest "PackSeeds" (85 : Nat) "PackSeeds$Machine" "stages" "I" "PackSeeds") ∈ gNw := List.mem_of_getElem? (i := 6) (by decide +kernel)
theorem nw_7 : (Jvm.Cond.methodLinkNest "PackSeeds" (190 : Nat) ({ cls := "PackSeeds$Pattern", name := "goesWith", desc := "(LPackSeeds$Pattern;)Z" } : Jvm.MethodName) "PackSeeds") ∈ gNw := List.mem_of_getElem? (i := 7) (by decide +kernel)
theorem nw_8 : (Jvm.Cond.methodLinkNest "PackSeeds" (194 : Nat) ({ cls := "PackSeeds$Pattern", name := "take", desc := "(LPackSeeds$Pattern;)V" } : Jvm.MethodName) "PackSeeds") ∈ gNw := List.mem_of_getElem? (i := 8) (by decide +kernel)
theorem nw_9 : (Jvm.Cond.methodLinkNest "PackSeeds" (145 : Nat) ({ cls := "PackSeeds$Machine", name := "hasLongestCycle", desc := "()Z" } : Jvm.MethodName) "PackSeeds") ∈ gNw := List.mem_of_getElem? (i := 9) (by decide +kernel)
theorem nw_10 : (Jvm.Cond.castable "java/lang/UnsupportedOperationException" "java/lang/UnsupportedOperationException") ∈ gNw := List.mem_of_getElem? (i := 10) (by decide +kernel)
theorem nw_11 : (Jvm.Cond.declares ({ cls := "java/lang/RuntimeException", name := "<init>", desc := "()V" } : Jvm.MethodName)) ∈ gNw := List.mem_of_getElem? (i := 11) (by decide +kernel)
theorem nw_12 : (Jvm.Cond.declares ({ cls := "java/lang/RuntimeException", name := "<init>", desc := "(Ljava/lang/String;)V" } : Jvm.MethodName)) ∈ gNw := List.mem_of_getElem? (i := 12) (by decide +kernel)
theorem nw_13 : (Jvm.Cond.declares ({ cls := "java/lang/Exception", name := "<init>", desc := "()V" } : Jvm.MethodName)) ∈ gNw := List.mem_of_getElem? (i := 13) (by decide +kernel)
theorem nw_14 : (Jvm.Cond.declares ({ cls := "java/lang/Exception", name := "<init>", desc := "(Ljava/lang/String;)V" } : Jvm.MethodName)) ∈ gNw := List.mem_of_getElem? (i := 14) (by decide +kernel)
theorem nw_15 : (Jvm.Cond.declares ({ cls := "java/lang/Throwable", name := "<init>", desc := "()V" } : Jvm.MethodName)) ∈ gNw := List.mem_of_getElem? (i := 15) (by decide +kernel)
theorem nw_16 : (Jvm.Cond.declares ({ cls := "java/lang/Throwable", name := "<init>", desc := "(Ljava/lang/String;)V" } : Jvm.MethodName)) ∈ gNw := List.mem_of_getElem? (i := 16) (by decide +kernel)
theorem nw_17 : (Jvm.Cond.methodLinkNest "PackSeeds" (47 : Nat) ({ cls := "PackSeeds$Pattern", name := "<init>", desc := "()V" } : Jvm.MethodName) "PackSeeds") ∈ gNw := List.mem_of_getElem? (i := 17) (by decide +kernel)
theorem nw_18 : (Jvm.Cond.fieldLinkNest "PackSeeds" (102 : Nat) "PackSeeds$Pattern" "cared" "I" "PackSeeds") ∈ gNw := List.mem_of_getElem? (i := 18) (by decide +kernel)
theorem nw_19 : (Jvm.Cond.fieldLinkNest "PackSeeds" (105 : Nat) "PackSeeds$Pattern" "values" "I" "PackSeeds") ∈ gNw := List.mem_of_getElem? (i := 19) (by decide +kernel)
theorem nw_20 : (Jvm.Cond.fieldLinkNest "PackSeeds" (132 : Nat) "PackSeeds$Pattern" "masked" "I" "PackSeeds") ∈ gNw := List.mem_of_getElem? (i := 20) (by decide +kernel)
theorem nw_21 : (Jvm.Cond.fieldLinkNest "PackSeeds" (122 : Nat) "PackSeeds$Pattern" "faults" "I" "PackSeeds") ∈ gNw := List.mem_of_getElem? (i := 21) (by decide +kernel)
theorem nw_22 : (Jvm.Cond.fieldLinkNest "PackSeeds" (111 : Nat) "PackSeeds$Pattern" "seed" "I" "PackSeeds") ∈ gNw := List.mem_of_getElem? (i := 22) (by decide +kernel)
theorem nw_23 : (Jvm.Cond.fieldLinkNest "PackSeeds" (128 : Nat) "PackSeeds$Pattern" "gone" "Z" "PackSeeds") ∈ gNw := List.mem_of_getElem? (i := 23) (by decide +kernel)
theorem nw_24 : (Jvm.Cond.castable "java/lang/IndexOutOfBoundsException" "java/lang/IndexOutOfBoundsException") ∈ gNw := List.mem_of_getElem? (i := 24) (by decide +kernel)
theorem nw_25 : (Jvm.Cond.castable "java/lang/IllegalArgumentException" "java/lang/IllegalArgumentException") ∈ gNw := List.mem_of_getElem? (i := 25) (by decide +kernel)
theorem nw_26 : (Jvm.Cond.methodLinkNest "PackSeeds" (61 : Nat) ({ cls := "PackSeeds$Pattern", name := "setCare", desc := "(II)Z" } : Jvm.MethodName) "PackSeeds") ∈ gNw := List.mem_of_getElem? (i := 26) (by decide +kernel)
theorem nw_27 : (Jvm.Cond.methodLinkNest "PackSeeds" (78 : Nat) ({ cls := "PackSeeds$Machine", name := "restart", desc := "(I)V" } : Jvm.MethodName) "PackSeeds") ∈ gNw := List.mem_of_getElem? (i := 27) (by decide +kernel)
theorem nw_28 : (Jvm.Cond.methodLinkNest "PackSeeds" (95 : Nat) ({ cls := "PackSeeds$Machine", name := "isTapped", desc := "(I)Z" } : Jvm.MethodName) "PackSeeds") ∈ gNw := List.mem_of_getElem? (i := 28) (by decide +kernel)
theorem nw_29 : (Jvm.Cond.methodLinkNest "PackSeeds" (99 : Nat) ({ cls := "PackSeeds$Machine", name := "turnTap", desc := "(I)V" } : Jvm.MethodName) "PackSeeds") ∈ gNw := List.mem_of_getElem? (i := 29) (by decide +kernel)
theorem nw_30 : (Jvm.Cond.methodLinkNest "PackSeeds" (108 : Nat) ({ cls := "PackSeeds$Machine", name := "leastSeed", desc := "(II)I" } : Jvm.MethodName) "PackSeeds") ∈ gNw := List.mem_of_getElem? (i := 30) (by decide +kernel)
theorem nw_31 : (Jvm.Cond.methodLinkNest "PackSeeds$Machine" (43 : Nat) ({ cls := "PackSeeds", name := "place", desc := "(II)I" } : Jvm.MethodName) "PackSeeds") ∈ gNw := List.mem_of_getElem? (i := 31) (by decide +kernel)
theorem nw_32 : (Jvm.Cond.methodLinkNest "PackSeeds" (198 : Nat) ({ cls := "PackSeeds$Machine", name := "make", desc := "(I)I" } : Jvm.MethodName) "PackSeeds") ∈ gNw := List.mem_of_getElem? (i := 32) (by decide +kernel)
theorem nw_33 : (Jvm.Cond.methodLinkNest "PackSeeds" (208 : Nat) ({ cls := "PackSeeds$Pattern", name := "careAt", desc := "(I)I" } : Jvm.MethodName) "PackSeeds") ∈ gNw := List.mem_of_getElem? (i := 33) (by decide +kernel)
theorem nw_34 : (Jvm.Cond.methodLinkNest "PackSeeds" (142 : Nat) ({ cls := "PackSeeds$Machine", name := "takeIn", desc := "(II)I" } : Jvm.MethodName) "PackSeeds") ∈ gNw := List.mem_of_getElem? (i := 34) (by decide +kernel)
-- classes and their fields
def F_ps : u_T := fun k => match k with
  | 0 => ("PackSeeds", "shape", "LPackSeeds$Shape;", true)
  | 1 => ("PackSeeds", "machine", "LPackSeeds$Machine;", true)
  | 2 => ("PackSeeds", "patterns", "[LPackSeeds$Pattern;", true)
  | 3 => ("PackSeeds", "made", "I", false)
  | _ => ("PackSeeds", "fillKind", "I", false)
def ty_ps : Nat → FieldType := fun k => match k with
  | 0 => .object "PackSeeds$Shape"
  | 1 => .object "PackSeeds$Machine"
  | 2 => .array (.object "PackSeeds$Pattern")
  | 3 => .int
  | _ => .int
theorem nm_ps : ∀ a, a < 5 → ∀ b, b < 5 → a ≠ b → (F_ps a).2.1 ≠ (F_ps b).2.1 := by decide +kernel
theorem tyok_ps : ∀ k, k < 5 → parseFieldDescriptor (F_ps k).2.2.1 = some (ty_ps k) := by decide +kernel
theorem in_ps : ∀ w ∈ u_ws "PackSeeds" F_ps 5, w ∈ Gall := by decide +kernel
def F_sh : u_T := fun k => match k with
  | 0 => ("PackSeeds$Shape", "chains", "I", true)
  | _ => ("PackSeeds$Shape", "cells", "I", true)
def ty_sh : Nat → FieldType := fun k => match k with
  | 0 => .int
  | _ => .int
theorem nm_sh : ∀ a, a < 2 → ∀ b, b < 2 → a ≠ b → (F_sh a).2.1 ≠ (F_sh b).2.1 := by decide +kernel
theorem tyok_sh : ∀ k, k < 2 → parseFieldDescriptor (F_sh k).2.2.1 = some (ty_sh k) := by decide +kernel
theorem in_sh : ∀ w ∈ u_ws "PackSeeds$Shape" F_sh 2, w ∈ Gall := by decide +kernel
def F_ma : u_T := fun k => match k with
  | 0 => ("PackSeeds$Machine", "shape", "LPackSeeds$Shape;", true)
  | 1 => ("PackSeeds$Machine", "rows", "[J", true)
  | 2 => ("PackSeeds$Machine", "stages", "I", false)
  | _ => ("PackSeeds$Machine", "taps", "I", false)
def ty_ma : Nat → FieldType := fun k => match k with
  | 0 => .object "PackSeeds$Shape"
  | 1 => .array .long
  | 2 => .int
  | _ => .int
theorem nm_ma : ∀ a, a < 4 → ∀ b, b < 4 → a ≠ b → (F_ma a).2.1 ≠ (F_ma b).2.1 := by decide +kernel
theorem tyok_ma : ∀ k, k < 4 → parseFieldDescriptor (F_ma k).2.2.1 = some (ty_ma k) := by decide +kernel
theorem in_ma : ∀ w ∈ u_ws "PackSeeds$Machine" F_ma 4, w ∈ Gall := by decide +kernel
def F_pt : u_T := fun k => match k with
  | 0 => ("PackSeeds$Pattern", "cared", "I", false)
  | 1 => ("PackSeeds$Pattern", "values", "I", false)
  | 2 => ("PackSeeds$Pattern", "masked", "I", false)
  | 3 => ("PackSeeds$Pattern", "faults", "I", false)
  | 4 => ("PackSeeds$Pattern", "seed", "I", false)
  | _ => ("PackSeeds$Pattern", "gone", "Z", false)
def ty_pt : Nat → FieldType := fun k => match k with
  | 0 => .int
  | 1 => .int
  | 2 => .int
  | 3 => .int
  | 4 => .int
  | _ => .boolean
theorem nm_pt : ∀ a, a < 6 → ∀ b, b < 6 → a ≠ b → (F_pt a).2.1 ≠ (F_pt b).2.1 := by decide +kernel
theorem tyok_pt : ∀ k, k < 6 → parseFieldDescriptor (F_pt k).2.2.1 = some (ty_pt k) := by decide +kernel
theorem in_pt : ∀ w ∈ u_ws "PackSeeds$Pattern" F_pt 6, w ∈ Gall := by decide +kernel
def F_mo : u_T := fun k => match k with
  | 0 => ("PackSeedsModel", "thrown", "I", false)
  | 1 => ("PackSeedsModel", "chains", "I", true)
  | 2 => ("PackSeedsModel", "length", "I", true)
  | 3 => ("PackSeedsModel", "cares", "[I", true)
  | 4 => ("PackSeedsModel", "masks", "[Z", true)
  | 5 => ("PackSeedsModel", "faults", "[Z", true)
  | 6 => ("PackSeedsModel", "gone", "[Z", true)
  | 7 => ("PackSeedsModel", "seeds", "[I", true)
  | 8 => ("PackSeedsModel", "patterns", "I", false)
  | 9 => ("PackSeedsModel", "degree", "I", false)
  | 10 => ("PackSeedsModel", "taps", "[Z", true)
  | 11 => ("PackSeedsModel", "filling", "I", false)
  | _ => ("PackSeedsModel", "basis", "[I", true)
def ty_mo : Nat → FieldType := fun k => match k with
  | 0 => .int
  | 1 => .int
  | 2 => .int
  | 3 => .array .int
  | 4 => .array .boolean
  | 5 => .array .boolean
  | 6 => .array .boolean
  | 7 => .array .int
  | 8 => .int
  | 9 => .int
  | 10 => .array .boolean
  | 11 => .int
  | _ => .array .int
theorem nm_mo : ∀ a, a < 13 → ∀ b, b < 13 → a ≠ b → (F_mo a).2.1 ≠ (F_mo b).2.1 := by decide +kernel
theorem tyok_mo : ∀ k, k < 13 → parseFieldDescriptor (F_mo k).2.2.1 = some (ty_mo k) := by decide +kernel
theorem in_mo : ∀ w ∈ u_ws "PackSeedsModel" F_mo 13, w ∈ Gall := by decide +kernel
abbrev cls : List vw_C := [("PackSeeds", F_ps, 5), ("PackSeeds$Shape", F_sh, 2), ("PackSeeds$Machine", F_ma, 4), ("PackSeeds$Pattern", F_pt, 6), ("PackSeedsModel", F_mo, 13)]
-- methods
abbrev b_ps_init : ByteArray := prog_1_method_1_code
abbrev y_ps_init : MethodName := ⟨"PackSeeds", "<init>", "(II)V"⟩
abbrev wd_ps_init : Cond := .code y_ps_init b_ps_init 3 none
theorem k_ps_init : wd_ps_init ∈ Gall := tw_18
abbrev b_ps_pattern : ByteArray := prog_1_method_2_code
abbrev y_ps_pattern : MethodName := ⟨"PackSeeds", "pattern", "()I"⟩
abbrev wd_ps_pattern : Cond := .code y_ps_pattern b_ps_pattern 2 (some .int)
theorem k_ps_pattern : wd_ps_pattern ∈ Gall := tw_145
abbrev b_ps_care : ByteArray := prog_1_method_3_code
abbrev y_ps_care : MethodName := ⟨"PackSeeds", "care", "(IIII)Z"⟩
abbrev wd_ps_care : Cond := .code y_ps_care b_ps_care 7 (some .boolean)
theorem k_ps_care : wd_ps_care ∈ Gall := tw_251
abbrev b_ps_join : ByteArray := prog_1_method_4_code
abbrev y_ps_join : MethodName := ⟨"PackSeeds", "join", "()I"⟩
abbrev wd_ps_join : Cond := .code y_ps_join b_ps_join 3 (some .int)
theorem k_ps_join : wd_ps_join ∈ Gall := tw_87
abbrev b_ps_degree : ByteArray := prog_1_method_5_code
abbrev y_ps_degree : MethodName := ⟨"PackSeeds", "degree", "(I)V"⟩
abbrev wd_ps_degree : Cond := .code y_ps_degree b_ps_degree 2 none
theorem k_ps_degree : wd_ps_degree ∈ Gall := tw_310
abbrev b_ps_machine : ByteArray := prog_1_method_6_code
abbrev y_ps_machine : MethodName := ⟨"PackSeeds", "machine", "(IZ)Z"⟩
abbrev wd_ps_machine : Cond := .code y_ps_machine b_ps_machine 3 (some .boolean)
theorem k_ps_machine : wd_ps_machine ∈ Gall := tw_326
abbrev b_ps_seed : ByteArray := prog_1_method_7_code
abbrev y_ps_seed : MethodName := ⟨"PackSeeds", "seed", "(I)I"⟩
abbrev wd_ps_seed : Cond := .code y_ps_seed b_ps_seed 3 (some .int)
theorem k_ps_seed : wd_ps_seed ∈ Gall := tw_343
abbrev b_ps_seedOf : ByteArray := prog_1_method_8_code
abbrev y_ps_seedOf : MethodName := ⟨"PackSeeds", "seedOf", "(I)I"⟩
abbrev wd_ps_seedOf : Cond := .code y_ps_seedOf b_ps_seedOf 2 (some .int)
theorem k_ps_seedOf : wd_ps_seedOf ∈ Gall := tw_377
abbrev b_ps_bit : ByteArray := prog_1_method_9_code
abbrev y_ps_bit : MethodName := ⟨"PackSeeds", "bit", "(III)I"⟩
abbrev wd_ps_bit : Cond := .code y_ps_bit b_ps_bit 6 (some .int)
theorem k_ps_bit : wd_ps_bit ∈ Gall := tw_384
abbrev b_ps_found : ByteArray := prog_1_method_10_code
abbrev y_ps_found : MethodName := ⟨"PackSeeds", "found", "(II)Z"⟩
abbrev wd_ps_found : Cond := .code y_ps_found b_ps_found 6 (some .boolean)
theorem k_ps_found : wd_ps_found ∈ Gall := tw_405
abbrev b_ps_drop : ByteArray := prog_1_method_11_code
abbrev y_ps_drop : MethodName := ⟨"PackSeeds", "drop", "()I"⟩
abbrev wd_ps_drop : Cond := .code y_ps_drop b_ps_drop 3 (some .int)
theorem k_ps_drop : wd_ps_drop ∈ Gall := tw_112
abbrev b_ps_finders : ByteArray := prog_1_method_12_code
abbrev y_ps_finders : MethodName := ⟨"PackSeeds", "finders", "(I)I"⟩
abbrev wd_ps_finders : Cond := .code y_ps_finders b_ps_finders 6 (some .int)
theorem k_ps_finders : wd_ps_finders ∈ Gall := tw_416
abbrev b_ps_mask : ByteArray := prog_1_method_13_code
abbrev y_ps_mask : MethodName := ⟨"PackSeeds", "mask", "(III)Z"⟩
abbrev wd_ps_mask : Cond := .code y_ps_mask b_ps_mask 7 (some .boolean)
theorem k_ps_mask : wd_ps_mask ∈ Gall := tw_423
abbrev b_ps_signature : ByteArray := prog_1_method_14_code
abbrev y_ps_signature : MethodName := ⟨"PackSeeds", "signature", "(II)J"⟩
abbrev wd_ps_signature : Cond := .code y_ps_signature b_ps_signature 7 (some .long)
theorem k_ps_signature : wd_ps_signature ∈ Gall := tw_430
abbrev b_ps_primitive : ByteArray := prog_1_method_15_code
abbrev y_ps_primitive : MethodName := ⟨"PackSeeds", "primitive", "()Z"⟩
abbrev wd_ps_primitive : Cond := .code y_ps_primitive b_ps_primitive 1 (some .boolean)
theorem k_ps_primitive : wd_ps_primitive ∈ Gall := tw_120
abbrev b_ps_alias : ByteArray := prog_1_method_16_code
abbrev y_ps_alias : MethodName := ⟨"PackSeeds", "alias", "(II)J"⟩
abbrev wd_ps_alias : Cond := .code y_ps_alias b_ps_alias 8 (some .long)
theorem k_ps_alias : wd_ps_alias ∈ Gall := tw_443
abbrev b_ps_fill : ByteArray := prog_1_method_17_code
abbrev y_ps_fill : MethodName := ⟨"PackSeeds", "fill", "(I)Z"⟩
abbrev wd_ps_fill : Cond := .code y_ps_fill b_ps_fill 3 (some .boolean)
theorem k_ps_fill : wd_ps_fill ∈ Gall := tw_459
abbrev b_ps_shifts : ByteArray := prog_1_method_18_code
abbrev y_ps_shifts : MethodName := ⟨"PackSeeds", "shifts", "(I)J"⟩
abbrev wd_ps_shifts : Cond := .code y_ps_shifts b_ps_shifts 9 (some .long)
theorem k_ps_shifts : wd_ps_shifts ∈ Gall := tw_467
abbrev b_ps_count : ByteArray := prog_1_method_19_code
abbrev y_ps_count : MethodName := ⟨"PackSeeds", "count", "(I)I"⟩
abbrev wd_ps_count : Cond := .code y_ps_count b_ps_count 2 (some .int)
theorem k_ps_count : wd_ps_count ∈ Gall := tw_474
abbrev b_ps_presentOrNull : ByteArray := prog_1_method_20_code
abbrev y_ps_presentOrNull : MethodName := ⟨"PackSeeds", "presentOrNull", "(I)LPackSeeds$Pattern;"⟩
abbrev wd_ps_presentOrNull : Cond := .code y_ps_presentOrNull b_ps_presentOrNull 3 (some (.object "PackSeeds$Pattern"))
theorem k_ps_presentOrNull : wd_ps_presentOrNull ∈ Gall := tw_91
abbrev b_ps_present : ByteArray := prog_1_method_21_code
abbrev y_ps_present : MethodName := ⟨"PackSeeds", "present", "(I)LPackSeeds$Pattern;"⟩
abbrev wd_ps_present : Cond := .code y_ps_present b_ps_present 3 (some (.object "PackSeeds$Pattern"))
theorem k_ps_present : wd_ps_present ∈ Gall := tw_255
abbrev b_ps_existingPlace : ByteArray := prog_1_method_22_code
abbrev y_ps_existingPlace : MethodName := ⟨"PackSeeds", "existingPlace", "(II)I"⟩
abbrev wd_ps_existingPlace : Cond := .code y_ps_existingPlace b_ps_existingPlace 3 (some .int)
theorem k_ps_existingPlace : wd_ps_existingPlace ∈ Gall := tw_275
abbrev b_ps_existingFault : ByteArray := prog_1_method_23_code
abbrev y_ps_existingFault : MethodName := ⟨"PackSeeds", "existingFault", "(I)I"⟩
abbrev wd_ps_existingFault : Cond := .code y_ps_existingFault b_ps_existingFault 1 (some .int)
theorem k_ps_existingFault : wd_ps_existingFault ∈ Gall := tw_408
abbrev b_ps_place : ByteArray := prog_1_method_24_code
abbrev y_ps_place : MethodName := ⟨"PackSeeds", "place", "(II)I"⟩
abbrev wd_ps_place : Cond := .code y_ps_place b_ps_place 2 (some .int)
theorem k_ps_place : wd_ps_place ∈ Gall := tw_279
abbrev b_ps_takeFromBehind : ByteArray := prog_1_method_25_code
abbrev y_ps_takeFromBehind : MethodName := ⟨"PackSeeds", "takeFromBehind", "(LPackSeeds$Pattern;I)V"⟩
abbrev wd_ps_takeFromBehind : Cond := .code y_ps_takeFromBehind b_ps_takeFromBehind 5 none
theorem k_ps_takeFromBehind : wd_ps_takeFromBehind ∈ Gall := tw_95
abbrev b_ps_forgetSeeds : ByteArray := prog_1_method_26_code
abbrev y_ps_forgetSeeds : MethodName := ⟨"PackSeeds", "forgetSeeds", "()V"⟩
abbrev wd_ps_forgetSeeds : Cond := .code y_ps_forgetSeeds b_ps_forgetSeeds 3 none
theorem k_ps_forgetSeeds : wd_ps_forgetSeeds ∈ Gall := tw_319
abbrev b_ps_faultsOfAllBut : ByteArray := prog_1_method_27_code
abbrev y_ps_faultsOfAllBut : MethodName := ⟨"PackSeeds", "faultsOfAllBut", "(I)I"⟩
abbrev wd_ps_faultsOfAllBut : Cond := .code y_ps_faultsOfAllBut b_ps_faultsOfAllBut 5 (some .int)
theorem k_ps_faultsOfAllBut : wd_ps_faultsOfAllBut ∈ Gall := tw_116
abbrev b_ps_countPresent : ByteArray := prog_1_method_28_code
abbrev y_ps_countPresent : MethodName := ⟨"PackSeeds", "countPresent", "()I"⟩
abbrev wd_ps_countPresent : Cond := .code y_ps_countPresent b_ps_countPresent 3 (some .int)
theorem k_ps_countPresent : wd_ps_countPresent ∈ Gall := tw_108
abbrev b_ps_countSeeded : ByteArray := prog_1_method_29_code
abbrev y_ps_countSeeded : MethodName := ⟨"PackSeeds", "countSeeded", "()I"⟩
abbrev wd_ps_countSeeded : Cond := .code y_ps_countSeeded b_ps_countSeeded 4 (some .int)
theorem k_ps_countSeeded : wd_ps_countSeeded ∈ Gall := tw_478
abbrev b_ps_countCared : ByteArray := prog_1_method_30_code
abbrev y_ps_countCared : MethodName := ⟨"PackSeeds", "countCared", "()I"⟩
abbrev wd_ps_countCared : Cond := .code y_ps_countCared b_ps_countCared 4 (some .int)
theorem k_ps_countCared : wd_ps_countCared ∈ Gall := tw_482
abbrev b_ps_bitsOf : ByteArray := prog_1_method_31_code
abbrev y_ps_bitsOf : MethodName := ⟨"PackSeeds", "bitsOf", "(LPackSeeds$Pattern;)I"⟩
abbrev wd_ps_bitsOf : Cond := .code y_ps_bitsOf b_ps_bitsOf 2 (some .int)
theorem k_ps_bitsOf : wd_ps_bitsOf ∈ Gall := tw_388
abbrev b_ps_filledFromNearest : ByteArray := prog_1_method_32_code
abbrev y_ps_filledFromNearest : MethodName := ⟨"PackSeeds", "filledFromNearest", "(LPackSeeds$Pattern;)I"⟩
abbrev wd_ps_filledFromNearest : Cond := .code y_ps_filledFromNearest b_ps_filledFromNearest 5 (some .int)
theorem k_ps_filledFromNearest : wd_ps_filledFromNearest ∈ Gall := tw_393
abbrev b_ps_nearestCare : ByteArray := prog_1_method_33_code
abbrev y_ps_nearestCare : MethodName := ⟨"PackSeeds", "nearestCare", "(LPackSeeds$Pattern;II)I"⟩
abbrev wd_ps_nearestCare : Cond := .code y_ps_nearestCare b_ps_nearestCare 6 (some .int)
theorem k_ps_nearestCare : wd_ps_nearestCare ∈ Gall := tw_397
abbrev b_ps_greatestDivisor : ByteArray := prog_1_method_34_code
abbrev y_ps_greatestDivisor : MethodName := ⟨"PackSeeds", "greatestDivisor", "(JJ)J"⟩
abbrev wd_ps_greatestDivisor : Cond := .code y_ps_greatestDivisor b_ps_greatestDivisor 11 (some .long)
theorem k_ps_greatestDivisor : wd_ps_greatestDivisor ∈ Gall := tw_449
abbrev b_mo_init : ByteArray := prog_6_method_1_code
abbrev y_mo_init : MethodName := ⟨"PackSeedsModel", "<init>", "(II)V"⟩
abbrev wd_mo_init : Cond := .code y_mo_init b_mo_init 3 none
theorem k_mo_init : wd_mo_init ∈ Gall := tw_489
abbrev b_mo_thrown : ByteArray := prog_6_method_2_code
abbrev y_mo_thrown : MethodName := ⟨"PackSeedsModel", "thrown", "()I"⟩
abbrev wd_mo_thrown : Cond := .code y_mo_thrown b_mo_thrown 1 (some .int)
theorem k_mo_thrown : wd_mo_thrown ∈ Gall := tw_536
abbrev b_mo_is : ByteArray := prog_6_method_3_code
abbrev y_mo_is : MethodName := ⟨"PackSeedsModel", "is", "(I)Z"⟩
abbrev wd_mo_is : Cond := .code y_mo_is b_mo_is 2 (some .boolean)
theorem k_mo_is : wd_mo_is ∈ Gall := tw_548
abbrev b_mo_isCell : ByteArray := prog_6_method_4_code
abbrev y_mo_isCell : MethodName := ⟨"PackSeedsModel", "isCell", "(II)Z"⟩
abbrev wd_mo_isCell : Cond := .code y_mo_isCell b_mo_isCell 3 (some .boolean)
theorem k_mo_isCell : wd_mo_isCell ∈ Gall := tw_552
abbrev b_mo_place : ByteArray := prog_6_method_5_code
abbrev y_mo_place : MethodName := ⟨"PackSeedsModel", "place", "(III)I"⟩
abbrev wd_mo_place : Cond := .code y_mo_place b_mo_place 4 (some .int)
theorem k_mo_place : wd_mo_place ∈ Gall := tw_556
abbrev b_mo_pattern : ByteArray := prog_6_method_6_code
abbrev y_mo_pattern : MethodName := ⟨"PackSeedsModel", "pattern", "()I"⟩
abbrev wd_mo_pattern : Cond := .code y_mo_pattern b_mo_pattern 2 (some .int)
theorem k_mo_pattern : wd_mo_pattern ∈ Gall := tw_540
abbrev b_mo_care : ByteArray := prog_6_method_7_code
abbrev y_mo_care : MethodName := ⟨"PackSeedsModel", "care", "(IIII)Z"⟩
abbrev wd_mo_care : Cond := .code y_mo_care b_mo_care 7 (some .boolean)
theorem k_mo_care : wd_mo_care ∈ Gall := tw_544
abbrev b_mo_found : ByteArray := prog_6_method_8_code
abbrev y_mo_found : MethodName := ⟨"PackSeedsModel", "found", "(II)Z"⟩
abbrev wd_mo_found : Cond := .code y_mo_found b_mo_found 4 (some .boolean)
theorem k_mo_found : wd_mo_found ∈ Gall := tw_560
abbrev b_mo_mask : ByteArray := prog_6_method_9_code
abbrev y_mo_mask : MethodName := ⟨"PackSeedsModel", "mask", "(III)Z"⟩
abbrev wd_mo_mask : Cond := .code y_mo_mask b_mo_mask 6 (some .boolean)
theorem k_mo_mask : wd_mo_mask ∈ Gall := tw_564
abbrev b_mo_goTogether : ByteArray := prog_6_method_10_code
abbrev y_mo_goTogether : MethodName := ⟨"PackSeedsModel", "goTogether", "(II)Z"⟩
abbrev wd_mo_goTogether : Cond := .code y_mo_goTogether b_mo_goTogether 7 (some .boolean)
theorem k_mo_goTogether : wd_mo_goTogether ∈ Gall := tw_572
abbrev b_mo_left : ByteArray := prog_6_method_11_code
abbrev y_mo_left : MethodName := ⟨"PackSeedsModel", "left", "()I"⟩
abbrev wd_mo_left : Cond := .code y_mo_left b_mo_left 3 (some .int)
theorem k_mo_left : wd_mo_left ∈ Gall := tw_576
abbrev b_mo_join : ByteArray := prog_6_method_12_code
abbrev y_mo_join : MethodName := ⟨"PackSeedsModel", "join", "()I"⟩
abbrev wd_mo_join : Cond := .code y_mo_join b_mo_join 4 (some .int)
theorem k_mo_join : wd_mo_join ∈ Gall := tw_568
abbrev b_mo_findersOf : ByteArray := prog_6_method_13_code
abbrev y_mo_findersOf : MethodName := ⟨"PackSeedsModel", "findersOf", "(I)I"⟩
abbrev wd_mo_findersOf : Cond := .code y_mo_findersOf b_mo_findersOf 4 (some .int)
theorem k_mo_findersOf : wd_mo_findersOf ∈ Gall := tw_584
abbrev b_mo_drop : ByteArray := prog_6_method_14_code
abbrev y_mo_drop : MethodName := ⟨"PackSeedsModel", "drop", "()I"⟩
abbrev wd_mo_drop : Cond := .code y_mo_drop b_mo_drop 4 (some .int)
theorem k_mo_drop : wd_mo_drop ∈ Gall := tw_580
abbrev b_mo_finders : ByteArray := prog_6_method_15_code
abbrev y_mo_finders : MethodName := ⟨"PackSeedsModel", "finders", "(I)I"⟩
abbrev wd_mo_finders : Cond := .code y_mo_finders b_mo_finders 2 (some .int)
theorem k_mo_finders : wd_mo_finders ∈ Gall := tw_588
abbrev b_mo_noSeeds : ByteArray := prog_6_method_16_code
abbrev y_mo_noSeeds : MethodName := ⟨"PackSeedsModel", "noSeeds", "()V"⟩
abbrev wd_mo_noSeeds : Cond := .code y_mo_noSeeds b_mo_noSeeds 2 none
theorem k_mo_noSeeds : wd_mo_noSeeds ∈ Gall := tw_596
abbrev b_mo_degree : ByteArray := prog_6_method_17_code
abbrev y_mo_degree : MethodName := ⟨"PackSeedsModel", "degree", "(I)V"⟩
abbrev wd_mo_degree : Cond := .code y_mo_degree b_mo_degree 3 none
theorem k_mo_degree : wd_mo_degree ∈ Gall := tw_592
abbrev b_mo_machine : ByteArray := prog_6_method_18_code
abbrev y_mo_machine : MethodName := ⟨"PackSeedsModel", "machine", "(IZ)Z"⟩
abbrev wd_mo_machine : Cond := .code y_mo_machine b_mo_machine 3 (some .boolean)
theorem k_mo_machine : wd_mo_machine ∈ Gall := tw_600
abbrev b_mo_step : ByteArray := prog_6_method_19_code
abbrev y_mo_step : MethodName := ⟨"PackSeedsModel", "step", "(I)I"⟩
abbrev wd_mo_step : Cond := .code y_mo_step b_mo_step 4 (some .int)
theorem k_mo_step : wd_mo_step ∈ Gall := tw_612
abbrev b_mo_brought : ByteArray := prog_6_method_20_code
abbrev y_mo_brought : MethodName := ⟨"PackSeedsModel", "brought", "(III)I"⟩
abbrev wd_mo_brought : Cond := .code y_mo_brought b_mo_brought 6 (some .int)
theorem k_mo_brought : wd_mo_brought ∈ Gall := tw_628
abbrev b_mo_makes : ByteArray := prog_6_method_21_code
abbrev y_mo_makes : MethodName := ⟨"PackSeedsModel", "makes", "(II)Z"⟩
abbrev wd_mo_makes : Cond := .code y_mo_makes b_mo_makes 7 (some .boolean)
theorem k_mo_makes : wd_mo_makes ∈ Gall := tw_608
abbrev b_mo_seed : ByteArray := prog_6_method_22_code
abbrev y_mo_seed : MethodName := ⟨"PackSeedsModel", "seed", "(I)I"⟩
abbrev wd_mo_seed : Cond := .code y_mo_seed b_mo_seed 3 (some .int)
theorem k_mo_seed : wd_mo_seed ∈ Gall := tw_604
abbrev b_mo_seedOf : ByteArray := prog_6_method_23_code
abbrev y_mo_seedOf : MethodName := ⟨"PackSeedsModel", "seedOf", "(I)I"⟩
abbrev wd_mo_seedOf : Cond := .code y_mo_seedOf b_mo_seedOf 2 (some .int)
theorem k_mo_seedOf : wd_mo_seedOf ∈ Gall := tw_616
abbrev b_mo_bitOf : ByteArray := prog_6_method_24_code
abbrev y_mo_bitOf : MethodName := ⟨"PackSeedsModel", "bitOf", "(III)I"⟩
abbrev wd_mo_bitOf : Cond := .code y_mo_bitOf b_mo_bitOf 6 (some .int)
theorem k_mo_bitOf : wd_mo_bitOf ∈ Gall := tw_624
abbrev b_mo_bit : ByteArray := prog_6_method_25_code
abbrev y_mo_bit : MethodName := ⟨"PackSeedsModel", "bit", "(III)I"⟩
abbrev wd_mo_bit : Cond := .code y_mo_bit b_mo_bit 4 (some .int)
theorem k_mo_bit : wd_mo_bit ∈ Gall := tw_620
abbrev b_mo_fill : ByteArray := prog_6_method_26_code
abbrev y_mo_fill : MethodName := ⟨"PackSeedsModel", "fill", "(I)Z"⟩
abbrev wd_mo_fill : Cond := .code y_mo_fill b_mo_fill 3 (some .boolean)
theorem k_mo_fill : wd_mo_fill ∈ Gall := tw_632
abbrev b_mo_shifts : ByteArray := prog_6_method_27_code
abbrev y_mo_shifts : MethodName := ⟨"PackSeedsModel", "shifts", "(I)J"⟩
abbrev wd_mo_shifts : Cond := .code y_mo_shifts b_mo_shifts 6 (some .long)
theorem k_mo_shifts : wd_mo_shifts ∈ Gall := tw_636
abbrev b_mo_signature : ByteArray := prog_6_method_28_code
abbrev y_mo_signature : MethodName := ⟨"PackSeedsModel", "signature", "(II)J"⟩
abbrev wd_mo_signature : Cond := .code y_mo_signature b_mo_signature 8 (some .long)
theorem k_mo_signature : wd_mo_signature ∈ Gall := tw_640
abbrev b_mo_primitive : ByteArray := prog_6_method_29_code
abbrev y_mo_primitive : MethodName := ⟨"PackSeedsModel", "primitive", "()Z"⟩
abbrev wd_mo_primitive : Cond := .code y_mo_primitive b_mo_primitive 3 (some .boolean)
theorem k_mo_primitive : wd_mo_primitive ∈ Gall := tw_644
abbrev b_mo_rank : ByteArray := prog_6_method_30_code
abbrev y_mo_rank : MethodName := ⟨"PackSeedsModel", "rank", "(I)I"⟩
abbrev wd_mo_rank : Cond := .code y_mo_rank b_mo_rank 7 (some .int)
theorem k_mo_rank : wd_mo_rank ∈ Gall := tw_652
abbrev b_mo_alias : ByteArray := prog_6_method_31_code
abbrev y_mo_alias : MethodName := ⟨"PackSeedsModel", "alias", "(II)J"⟩
abbrev wd_mo_alias : Cond := .code y_mo_alias b_mo_alias 13 (some .long)
theorem k_mo_alias : wd_mo_alias ∈ Gall := tw_648
abbrev b_mo_count : ByteArray := prog_6_method_32_code
abbrev y_mo_count : MethodName := ⟨"PackSeedsModel", "count", "(I)I"⟩
abbrev wd_mo_count : Cond := .code y_mo_count b_mo_count 5 (some .int)
theorem k_mo_count : wd_mo_count ∈ Gall := tw_656
abbrev b_ma_init : ByteArray := prog_2_method_1_code
abbrev y_ma_init : MethodName := ⟨"PackSeeds$Machine", "<init>", "(LPackSeeds$Shape;)V"⟩
abbrev wd_ma_init : Cond := .code y_ma_init b_ma_init 2 none
theorem k_ma_init : wd_ma_init ∈ Gall := tw_49
abbrev b_ma_restart : ByteArray := prog_2_method_2_code
abbrev y_ma_restart : MethodName := ⟨"PackSeeds$Machine", "restart", "(I)V"⟩
abbrev wd_ma_restart : Cond := .code y_ma_restart b_ma_restart 2 none
theorem k_ma_restart : wd_ma_restart ∈ Gall := tw_315
abbrev b_ma_isTapped : ByteArray := prog_2_method_3_code
abbrev y_ma_isTapped : MethodName := ⟨"PackSeeds$Machine", "isTapped", "(I)Z"⟩
abbrev wd_ma_isTapped : Cond := .code y_ma_isTapped b_ma_isTapped 2 (some .boolean)
theorem k_ma_isTapped : wd_ma_isTapped ∈ Gall := tw_332
abbrev b_ma_turnTap : ByteArray := prog_2_method_4_code
abbrev y_ma_turnTap : MethodName := ⟨"PackSeeds$Machine", "turnTap", "(I)V"⟩
abbrev wd_ma_turnTap : Cond := .code y_ma_turnTap b_ma_turnTap 2 none
theorem k_ma_turnTap : wd_ma_turnTap ∈ Gall := tw_336
abbrev b_ma_step : ByteArray := prog_2_method_5_code
abbrev y_ma_step : MethodName := ⟨"PackSeeds$Machine", "step", "(I)I"⟩
abbrev wd_ma_step : Cond := .code y_ma_step b_ma_step 3 (some .int)
theorem k_ma_step : wd_ma_step ∈ Gall := tw_128
abbrev b_ma_stageAround : ByteArray := prog_2_method_6_code
abbrev y_ma_stageAround : MethodName := ⟨"PackSeeds$Machine", "stageAround", "(I)I"⟩
abbrev wd_ma_stageAround : Cond := .code y_ma_stageAround b_ma_stageAround 2 (some .int)
theorem k_ma_stageAround : wd_ma_stageAround ∈ Gall := tw_355
abbrev b_ma_make : ByteArray := prog_2_method_7_code
abbrev y_ma_make : MethodName := ⟨"PackSeeds$Machine", "make", "(I)I"⟩
abbrev wd_ma_make : Cond := .code y_ma_make b_ma_make 6 (some .int)
theorem k_ma_make : wd_ma_make ∈ Gall := tw_351
abbrev b_ma_takeIn : ByteArray := prog_2_method_8_code
abbrev y_ma_takeIn : MethodName := ⟨"PackSeeds$Machine", "takeIn", "(II)I"⟩
abbrev wd_ma_takeIn : Cond := .code y_ma_takeIn b_ma_takeIn 6 (some .int)
theorem k_ma_takeIn : wd_ma_takeIn ∈ Gall := tw_436
abbrev b_ma_hasLongestCycle : ByteArray := prog_2_method_9_code
abbrev y_ma_hasLongestCycle : MethodName := ⟨"PackSeeds$Machine", "hasLongestCycle", "()Z"⟩
abbrev wd_ma_hasLongestCycle : Cond := .code y_ma_hasLongestCycle b_ma_hasLongestCycle 4 (some .boolean)
theorem k_ma_hasLongestCycle : wd_ma_hasLongestCycle ∈ Gall := tw_124
abbrev b_ma_leastSeed : ByteArray := prog_2_method_10_code
abbrev y_ma_leastSeed : MethodName := ⟨"PackSeeds$Machine", "leastSeed", "(II)I"⟩
abbrev wd_ma_leastSeed : Cond := .code y_ma_leastSeed b_ma_leastSeed 5 (some .int)
theorem k_ma_leastSeed : wd_ma_leastSeed ∈ Gall := tw_347
abbrev b_ma_row : ByteArray := prog_2_method_11_code
abbrev y_ma_row : MethodName := ⟨"PackSeeds$Machine", "row", "(II)J"⟩
abbrev wd_ma_row : Cond := .code y_ma_row b_ma_row 2 (some .long)
theorem k_ma_row : wd_ma_row ∈ Gall := tw_359
abbrev b_ma_cellsOf : ByteArray := prog_2_method_12_code
abbrev y_ma_cellsOf : MethodName := ⟨"PackSeeds$Machine", "cellsOf", "(J)J"⟩
abbrev wd_ma_cellsOf : Cond := .code y_ma_cellsOf b_ma_cellsOf 2 (some .long)
theorem k_ma_cellsOf : wd_ma_cellsOf ∈ Gall := tw_370
abbrev b_ma_reduced : ByteArray := prog_2_method_13_code
abbrev y_ma_reduced : MethodName := ⟨"PackSeeds$Machine", "reduced", "(J)J"⟩
abbrev wd_ma_reduced : Cond := .code y_ma_reduced b_ma_reduced 6 (some .long)
theorem k_ma_reduced : wd_ma_reduced ∈ Gall := tw_363
abbrev b_ma_keep : ByteArray := prog_2_method_14_code
abbrev y_ma_keep : MethodName := ⟨"PackSeeds$Machine", "keep", "(J)V"⟩
abbrev wd_ma_keep : Cond := .code y_ma_keep b_ma_keep 4 none
theorem k_ma_keep : wd_ma_keep ∈ Gall := tw_367
abbrev b_pt_init : ByteArray := prog_3_method_1_code
abbrev y_pt_init : MethodName := ⟨"PackSeeds$Pattern", "<init>", "()V"⟩
abbrev wd_pt_init : Cond := .code y_pt_init b_pt_init 1 none
theorem k_pt_init : wd_pt_init ∈ Gall := tw_216
abbrev b_pt_careAt : ByteArray := prog_3_method_2_code
abbrev y_pt_careAt : MethodName := ⟨"PackSeeds$Pattern", "careAt", "(I)I"⟩
abbrev wd_pt_careAt : Cond := .code y_pt_careAt b_pt_careAt 2 (some .int)
theorem k_pt_careAt : wd_pt_careAt ∈ Gall := tw_303
abbrev b_pt_setCare : ByteArray := prog_3_method_3_code
abbrev y_pt_setCare : MethodName := ⟨"PackSeeds$Pattern", "setCare", "(II)Z"⟩
abbrev wd_pt_setCare : Cond := .code y_pt_setCare b_pt_setCare 3 (some .boolean)
theorem k_pt_setCare : wd_pt_setCare ∈ Gall := tw_299
abbrev b_pt_goesWith : ByteArray := prog_3_method_4_code
abbrev y_pt_goesWith : MethodName := ⟨"PackSeeds$Pattern", "goesWith", "(LPackSeeds$Pattern;)Z"⟩
abbrev wd_pt_goesWith : Cond := .code y_pt_goesWith b_pt_goesWith 2 (some .boolean)
theorem k_pt_goesWith : wd_pt_goesWith ∈ Gall := tw_100
abbrev b_pt_take : ByteArray := prog_3_method_5_code
abbrev y_pt_take : MethodName := ⟨"PackSeeds$Pattern", "take", "(LPackSeeds$Pattern;)V"⟩
abbrev wd_pt_take : Cond := .code y_pt_take b_pt_take 2 none
theorem k_pt_take : wd_pt_take ∈ Gall := tw_104
abbrev b_sh_init : ByteArray := prog_4_method_1_code
abbrev y_sh_init : MethodName := ⟨"PackSeeds$Shape", "<init>", "(II)V"⟩
abbrev wd_sh_init : Cond := .code y_sh_init b_sh_init 3 none
theorem k_sh_init : wd_sh_init ∈ Gall := tw_26
abbrev b_la_cell : ByteArray := method_2_code
abbrev y_la_cell : MethodName := ⟨"PackSeedsLaw", "cell", "([II)I"⟩
abbrev wd_la_cell : Cond := .code y_la_cell b_la_cell 2 (some .int)
theorem k_la_cell : wd_la_cell ∈ Gall := tw_137
abbrev b_la_pattern : ByteArray := method_3_code
abbrev y_la_pattern : MethodName := ⟨"PackSeedsLaw", "pattern", "(LPackSeeds;[J)I"⟩
abbrev hh_la_pattern : List (Nat × Nat × Nat × Nat) := [((0 : Nat), (8 : Nat), (11 : Nat), (13 : Nat))]
abbrev wd_la_pattern : Cond := .codeWith y_la_pattern b_la_pattern 3 (some .int) hh_la_pattern
theorem k_la_pattern : wd_la_pattern ∈ Gall := tw_140
abbrev b_la_care : ByteArray := method_4_code
abbrev y_la_care : MethodName := ⟨"PackSeedsLaw", "care", "(LPackSeeds;IIII[J)I"⟩
abbrev hh_la_care : List (Nat × Nat × Nat × Nat) := [((0 : Nat), (21 : Nat), (24 : Nat), (19 : Nat)), ((0 : Nat), (21 : Nat), (28 : Nat), (21 : Nat))]
abbrev wd_la_care : Cond := .codeWith y_la_care b_la_care 7 (some .int) hh_la_care
theorem k_la_care : wd_la_care ∈ Gall := tw_245
abbrev b_la_degree : ByteArray := method_5_code
abbrev y_la_degree : MethodName := ⟨"PackSeedsLaw", "degree", "(LPackSeeds;I)I"⟩
abbrev hh_la_degree : List (Nat × Nat × Nat × Nat) := [((0 : Nat), (5 : Nat), (8 : Nat), (21 : Nat))]
abbrev wd_la_degree : Cond := .codeWith y_la_degree b_la_degree 3 (some .int) hh_la_degree
theorem k_la_degree : wd_la_degree ∈ Gall := tw_306
abbrev b_la_machine : ByteArray := method_6_code
abbrev y_la_machine : MethodName := ⟨"PackSeedsLaw", "machine", "(LPackSeeds;IZ[J)I"⟩
abbrev hh_la_machine : List (Nat × Nat × Nat × Nat) := [((0 : Nat), (17 : Nat), (20 : Nat), (19 : Nat)), ((0 : Nat), (17 : Nat), (24 : Nat), (21 : Nat))]
abbrev wd_la_machine : Cond := .codeWith y_la_machine b_la_machine 5 (some .int) hh_la_machine
theorem k_la_machine : wd_la_machine ∈ Gall := tw_322
abbrev b_la_seed : ByteArray := method_7_code
abbrev y_la_seed : MethodName := ⟨"PackSeedsLaw", "seed", "(LPackSeeds;I[J)I"⟩
abbrev hh_la_seed : List (Nat × Nat × Nat × Nat) := [((0 : Nat), (9 : Nat), (12 : Nat), (19 : Nat))]
abbrev wd_la_seed : Cond := .codeWith y_la_seed b_la_seed 4 (some .int) hh_la_seed
theorem k_la_seed : wd_la_seed ∈ Gall := tw_339
abbrev b_la_seedOf : ByteArray := method_8_code
abbrev y_la_seedOf : MethodName := ⟨"PackSeedsLaw", "seedOf", "(LPackSeeds;I[J)I"⟩
abbrev hh_la_seedOf : List (Nat × Nat × Nat × Nat) := [((0 : Nat), (9 : Nat), (12 : Nat), (19 : Nat))]
abbrev wd_la_seedOf : Cond := .codeWith y_la_seedOf b_la_seedOf 4 (some .int) hh_la_seedOf
theorem k_la_seedOf : wd_la_seedOf ∈ Gall := tw_373
abbrev b_la_bit : ByteArray := method_9_code
abbrev y_la_bit : MethodName := ⟨"PackSeedsLaw", "bit", "(LPackSeeds;III[J)I"⟩
abbrev hh_la_bit : List (Nat × Nat × Nat × Nat) := [((0 : Nat), (12 : Nat), (15 : Nat), (19 : Nat))]
abbrev wd_la_bit : Cond := .codeWith y_la_bit b_la_bit 6 (some .int) hh_la_bit
theorem k_la_bit : wd_la_bit ∈ Gall := tw_380
abbrev b_la_found : ByteArray := method_10_code
abbrev y_la_found : MethodName := ⟨"PackSeedsLaw", "found", "(LPackSeeds;II[J)I"⟩
abbrev hh_la_found : List (Nat × Nat × Nat × Nat) := [((0 : Nat), (17 : Nat), (20 : Nat), (19 : Nat))]
abbrev wd_la_found : Cond := .codeWith y_la_found b_la_found 5 (some .int) hh_la_found
theorem k_la_found : wd_la_found ∈ Gall := tw_401
abbrev b_la_finders : ByteArray := method_11_code
abbrev y_la_finders : MethodName := ⟨"PackSeedsLaw", "finders", "(LPackSeeds;I[J)I"⟩
abbrev hh_la_finders : List (Nat × Nat × Nat × Nat) := [((0 : Nat), (9 : Nat), (12 : Nat), (19 : Nat))]
abbrev wd_la_finders : Cond := .codeWith y_la_finders b_la_finders 4 (some .int) hh_la_finders
theorem k_la_finders : wd_la_finders ∈ Gall := tw_412
abbrev b_la_mask : ByteArray := method_12_code
abbrev y_la_mask : MethodName := ⟨"PackSeedsLaw", "mask", "(LPackSeeds;III[J)I"⟩
abbrev hh_la_mask : List (Nat × Nat × Nat × Nat) := [((0 : Nat), (19 : Nat), (22 : Nat), (19 : Nat))]
abbrev wd_la_mask : Cond := .codeWith y_la_mask b_la_mask 6 (some .int) hh_la_mask
theorem k_la_mask : wd_la_mask ∈ Gall := tw_419
abbrev b_la_signature : ByteArray := method_13_code
abbrev y_la_signature : MethodName := ⟨"PackSeedsLaw", "signature", "(LPackSeeds;II[J)I"⟩
abbrev hh_la_signature : List (Nat × Nat × Nat × Nat) := [((0 : Nat), (9 : Nat), (12 : Nat), (21 : Nat))]
abbrev wd_la_signature : Cond := .codeWith y_la_signature b_la_signature 5 (some .int) hh_la_signature
theorem k_la_signature : wd_la_signature ∈ Gall := tw_426
abbrev b_la_alias : ByteArray := method_14_code
abbrev y_la_alias : MethodName := ⟨"PackSeedsLaw", "alias", "(LPackSeeds;II[J)I"⟩
abbrev hh_la_alias : List (Nat × Nat × Nat × Nat) := [((0 : Nat), (9 : Nat), (12 : Nat), (21 : Nat))]
abbrev wd_la_alias : Cond := .codeWith y_la_alias b_la_alias 5 (some .int) hh_la_alias
theorem k_la_alias : wd_la_alias ∈ Gall := tw_439
abbrev b_la_fill : ByteArray := method_15_code
abbrev y_la_fill : MethodName := ⟨"PackSeedsLaw", "fill", "(LPackSeeds;I[J)I"⟩
abbrev hh_la_fill : List (Nat × Nat × Nat × Nat) := [((0 : Nat), (16 : Nat), (19 : Nat), (21 : Nat))]
abbrev wd_la_fill : Cond := .codeWith y_la_fill b_la_fill 4 (some .int) hh_la_fill
theorem k_la_fill : wd_la_fill ∈ Gall := tw_455
abbrev b_la_shifts : ByteArray := method_16_code
abbrev y_la_shifts : MethodName := ⟨"PackSeedsLaw", "shifts", "(LPackSeeds;I[J)I"⟩
abbrev hh_la_shifts : List (Nat × Nat × Nat × Nat) := [((0 : Nat), (8 : Nat), (11 : Nat), (19 : Nat))]
abbrev wd_la_shifts : Cond := .codeWith y_la_shifts b_la_shifts 4 (some .int) hh_la_shifts
theorem k_la_shifts : wd_la_shifts ∈ Gall := tw_463
abbrev b_la_count : ByteArray := method_17_code
abbrev y_la_count : MethodName := ⟨"PackSeedsLaw", "count", "(LPackSeeds;I[J)I"⟩
abbrev hh_la_count : List (Nat × Nat × Nat × Nat) := [((0 : Nat), (9 : Nat), (12 : Nat), (19 : Nat))]
abbrev wd_la_count : Cond := .codeWith y_la_count b_la_count 4 (some .int) hh_la_count
theorem k_la_count : wd_la_count ∈ Gall := tw_470
abbrev b_in_bitCount : ByteArray := prog_10_method_49_code
abbrev y_in_bitCount : MethodName := ⟨"java/lang/Integer", "bitCount", "(I)I"⟩
abbrev wd_in_bitCount : Cond := .code y_in_bitCount b_in_bitCount 1 (some .int)
theorem k_in_bitCount : wd_in_bitCount ∈ Gall := tw_131
abbrev b_mt_max : ByteArray := prog_11_method_65_code
abbrev y_mt_max : MethodName := ⟨"java/lang/Math", "max", "(II)I"⟩
abbrev wd_mt_max : Cond := .code y_mt_max b_mt_max 2 (some .int)
theorem k_mt_max : wd_mt_max ∈ Gall := tw_30
abbrev b_mt_max2 : ByteArray := prog_11_method_66_code
abbrev y_mt_max2 : MethodName := ⟨"java/lang/Math", "max", "(JJ)J"⟩
abbrev wd_mt_max2 : Cond := .code y_mt_max2 b_mt_max2 4 (some .long)
theorem k_mt_max2 : wd_mt_max2 ∈ Gall := tw_452
abbrev b_mt_min : ByteArray := prog_11_method_69_code
abbrev y_mt_min : MethodName := ⟨"java/lang/Math", "min", "(II)I"⟩
abbrev wd_mt_min : Cond := .code y_mt_min b_mt_min 2 (some .int)
theorem k_mt_min : wd_mt_min ∈ Gall := tw_33
