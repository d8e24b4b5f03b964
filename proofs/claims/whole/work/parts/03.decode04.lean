theorem d_mo_bit_0 : decode b_mo_bit 0 = .ok (.aload_n 0, 1) := by decide +kernel
theorem d_mo_bit_1 : decode b_mo_bit 1 = .ok (.aload_n 0, 1) := by decide +kernel
theorem d_mo_bit_2 : decode b_mo_bit 2 = .ok (.iload_n 1, 1) := by decide +kernel
theorem d_mo_bit_3 : decode b_mo_bit 3 = .ok (.invokevirtual 48, 3) := by decide +kernel
theorem d_mo_bit_6 : decode b_mo_bit 6 = .ok (.ifCond .eq 16, 3) := by decide +kernel
theorem d_mo_bit_9 : decode b_mo_bit 9 = .ok (.aload_n 0, 1) := by decide +kernel
theorem d_mo_bit_10 : decode b_mo_bit 10 = .ok (.iload_n 2, 1) := by decide +kernel
theorem d_mo_bit_11 : decode b_mo_bit 11 = .ok (.iload_n 3, 1) := by decide +kernel
theorem d_mo_bit_12 : decode b_mo_bit 12 = .ok (.invokevirtual 52, 3) := by decide +kernel
theorem d_mo_bit_15 : decode b_mo_bit 15 = .ok (.ifCond .eq 7, 3) := by decide +kernel
theorem d_mo_bit_18 : decode b_mo_bit 18 = .ok (.iconst 0, 1) := by decide +kernel
theorem d_mo_bit_19 : decode b_mo_bit 19 = .ok (.goto 4, 3) := by decide +kernel
theorem d_mo_bit_22 : decode b_mo_bit 22 = .ok (.iconst 1, 1) := by decide +kernel
theorem d_mo_bit_23 : decode b_mo_bit 23 = .ok (.putfield 42, 3) := by decide +kernel
theorem d_mo_bit_26 : decode b_mo_bit 26 = .ok (.aload_n 0, 1) := by decide +kernel
theorem d_mo_bit_27 : decode b_mo_bit 27 = .ok (.getfield 42, 3) := by decide +kernel
theorem d_mo_bit_30 : decode b_mo_bit 30 = .ok (.ifCond .le 7, 3) := by decide +kernel
theorem d_mo_bit_33 : decode b_mo_bit 33 = .ok (.iconst 0, 1) := by decide +kernel
theorem d_mo_bit_34 : decode b_mo_bit 34 = .ok (.goto 10, 3) := by decide +kernel
theorem d_mo_bit_37 : decode b_mo_bit 37 = .ok (.aload_n 0, 1) := by decide +kernel
theorem d_mo_bit_38 : decode b_mo_bit 38 = .ok (.iload_n 1, 1) := by decide +kernel
theorem d_mo_bit_39 : decode b_mo_bit 39 = .ok (.iload_n 2, 1) := by decide +kernel
theorem d_mo_bit_40 : decode b_mo_bit 40 = .ok (.iload_n 3, 1) := by decide +kernel
theorem d_mo_bit_41 : decode b_mo_bit 41 = .ok (.invokevirtual 86, 3) := by decide +kernel
theorem d_mo_bit_44 : decode b_mo_bit 44 = .ok (.ireturn, 1) := by decide +kernel
theorem d_mo_fill_0 : decode b_mo_fill 0 = .ok (.aload_n 0, 1) := by decide +kernel
theorem d_mo_fill_1 : decode b_mo_fill 1 = .ok (.iload_n 1, 1) := by decide +kernel
theorem d_mo_fill_2 : decode b_mo_fill 2 = .ok (.ifCond .lt 8, 3) := by decide +kernel
theorem d_mo_fill_5 : decode b_mo_fill 5 = .ok (.iload_n 1, 1) := by decide +kernel
theorem d_mo_fill_6 : decode b_mo_fill 6 = .ok (.iconst 2, 1) := by decide +kernel
theorem d_mo_fill_7 : decode b_mo_fill 7 = .ok (.if_icmp .le 7, 3) := by decide +kernel
theorem d_mo_fill_10 : decode b_mo_fill 10 = .ok (.iconst 1, 1) := by decide +kernel
theorem d_mo_fill_11 : decode b_mo_fill 11 = .ok (.goto 4, 3) := by decide +kernel
theorem d_mo_fill_14 : decode b_mo_fill 14 = .ok (.iconst 0, 1) := by decide +kernel
theorem d_mo_fill_15 : decode b_mo_fill 15 = .ok (.putfield 42, 3) := by decide +kernel
theorem d_mo_fill_18 : decode b_mo_fill 18 = .ok (.aload_n 0, 1) := by decide +kernel
theorem d_mo_fill_19 : decode b_mo_fill 19 = .ok (.getfield 42, 3) := by decide +kernel
theorem d_mo_fill_22 : decode b_mo_fill 22 = .ok (.ifCond .ne 15, 3) := by decide +kernel
theorem d_mo_fill_25 : decode b_mo_fill 25 = .ok (.iload_n 1, 1) := by decide +kernel
theorem d_mo_fill_26 : decode b_mo_fill 26 = .ok (.aload_n 0, 1) := by decide +kernel
theorem d_mo_fill_27 : decode b_mo_fill 27 = .ok (.getfield 83, 3) := by decide +kernel
theorem d_mo_fill_30 : decode b_mo_fill 30 = .ok (.if_icmp .eq 7, 3) := by decide +kernel
theorem d_mo_fill_33 : decode b_mo_fill 33 = .ok (.iconst 1, 1) := by decide +kernel
theorem d_mo_fill_34 : decode b_mo_fill 34 = .ok (.goto 4, 3) := by decide +kernel
theorem d_mo_fill_37 : decode b_mo_fill 37 = .ok (.iconst 0, 1) := by decide +kernel
theorem d_mo_fill_38 : decode b_mo_fill 38 = .ok (.istore_n 2, 1) := by decide +kernel
theorem d_mo_fill_39 : decode b_mo_fill 39 = .ok (.aload_n 0, 1) := by decide +kernel
theorem d_mo_fill_40 : decode b_mo_fill 40 = .ok (.aload_n 0, 1) := by decide +kernel
theorem d_mo_fill_41 : decode b_mo_fill 41 = .ok (.getfield 42, 3) := by decide +kernel
theorem d_mo_fill_44 : decode b_mo_fill 44 = .ok (.ifCond .le 10, 3) := by decide +kernel
theorem d_mo_fill_47 : decode b_mo_fill 47 = .ok (.aload_n 0, 1) := by decide +kernel
theorem d_mo_fill_48 : decode b_mo_fill 48 = .ok (.getfield 83, 3) := by decide +kernel
theorem d_mo_fill_51 : decode b_mo_fill 51 = .ok (.goto 4, 3) := by decide +kernel
theorem d_mo_fill_54 : decode b_mo_fill 54 = .ok (.iload_n 1, 1) := by decide +kernel
theorem d_mo_fill_55 : decode b_mo_fill 55 = .ok (.putfield 83, 3) := by decide +kernel
theorem d_mo_fill_58 : decode b_mo_fill 58 = .ok (.iload_n 2, 1) := by decide +kernel
theorem d_mo_fill_59 : decode b_mo_fill 59 = .ok (.ireturn, 1) := by decide +kernel
theorem d_mo_shifts_0 : decode b_mo_shifts 0 = .ok (.aload_n 0, 1) := by decide +kernel
theorem d_mo_shifts_1 : decode b_mo_shifts 1 = .ok (.aload_n 0, 1) := by decide +kernel
theorem d_mo_shifts_2 : decode b_mo_shifts 2 = .ok (.iload_n 1, 1) := by decide +kernel
theorem d_mo_shifts_3 : decode b_mo_shifts 3 = .ok (.invokevirtual 48, 3) := by decide +kernel
theorem d_mo_shifts_6 : decode b_mo_shifts 6 = .ok (.ifCond .eq 7, 3) := by decide +kernel
theorem d_mo_shifts_9 : decode b_mo_shifts 9 = .ok (.iconst 0, 1) := by decide +kernel
theorem d_mo_shifts_10 : decode b_mo_shifts 10 = .ok (.goto 4, 3) := by decide +kernel
theorem d_mo_shifts_13 : decode b_mo_shifts 13 = .ok (.iconst 1, 1) := by decide +kernel
theorem d_mo_shifts_14 : decode b_mo_shifts 14 = .ok (.putfield 42, 3) := by decide +kernel
theorem d_mo_shifts_17 : decode b_mo_shifts 17 = .ok (.lconst 0, 1) := by decide +kernel
theorem d_mo_shifts_18 : decode b_mo_shifts 18 = .ok (.lstore_n 2, 1) := by decide +kernel
theorem d_mo_shifts_19 : decode b_mo_shifts 19 = .ok (.iconst 0, 1) := by decide +kernel
theorem d_mo_shifts_20 : decode b_mo_shifts 20 = .ok (.istore 4, 2) := by decide +kernel
theorem d_mo_shifts_22 : decode b_mo_shifts 22 = .ok (.iload 4, 2) := by decide +kernel
theorem d_mo_shifts_24 : decode b_mo_shifts 24 = .ok (.aload_n 0, 1) := by decide +kernel
theorem d_mo_shifts_25 : decode b_mo_shifts 25 = .ok (.getfield 32, 3) := by decide +kernel
theorem d_mo_shifts_28 : decode b_mo_shifts 28 = .ok (.if_icmp .ge 71, 3) := by decide +kernel
theorem d_mo_shifts_31 : decode b_mo_shifts 31 = .ok (.aload_n 0, 1) := by decide +kernel
theorem d_mo_shifts_32 : decode b_mo_shifts 32 = .ok (.getfield 42, 3) := by decide +kernel
theorem d_mo_shifts_35 : decode b_mo_shifts 35 = .ok (.ifCond .ne 64, 3) := by decide +kernel
theorem d_mo_shifts_38 : decode b_mo_shifts 38 = .ok (.iconst 0, 1) := by decide +kernel
theorem d_mo_shifts_39 : decode b_mo_shifts 39 = .ok (.istore 5, 2) := by decide +kernel
theorem d_mo_shifts_41 : decode b_mo_shifts 41 = .ok (.iload 5, 2) := by decide +kernel
theorem d_mo_shifts_43 : decode b_mo_shifts 43 = .ok (.iconst 1, 1) := by decide +kernel
theorem d_mo_shifts_44 : decode b_mo_shifts 44 = .ok (.iadd, 1) := by decide +kernel
theorem d_mo_shifts_45 : decode b_mo_shifts 45 = .ok (.aload_n 0, 1) := by decide +kernel
theorem d_mo_shifts_46 : decode b_mo_shifts 46 = .ok (.getfield 36, 3) := by decide +kernel
theorem d_mo_shifts_49 : decode b_mo_shifts 49 = .ok (.if_icmp .ge 44, 3) := by decide +kernel
theorem d_mo_shifts_52 : decode b_mo_shifts 52 = .ok (.aload_n 0, 1) := by decide +kernel
theorem d_mo_shifts_53 : decode b_mo_shifts 53 = .ok (.iload_n 1, 1) := by decide +kernel
theorem d_mo_shifts_54 : decode b_mo_shifts 54 = .ok (.iload 4, 2) := by decide +kernel
theorem d_mo_shifts_56 : decode b_mo_shifts 56 = .ok (.iload 5, 2) := by decide +kernel
theorem d_mo_shifts_58 : decode b_mo_shifts 58 = .ok (.invokevirtual 86, 3) := by decide +kernel
theorem d_mo_shifts_61 : decode b_mo_shifts 61 = .ok (.aload_n 0, 1) := by decide +kernel
theorem d_mo_shifts_62 : decode b_mo_shifts 62 = .ok (.iload_n 1, 1) := by decide +kernel
theorem d_mo_shifts_63 : decode b_mo_shifts 63 = .ok (.iload 4, 2) := by decide +kernel
theorem d_mo_shifts_65 : decode b_mo_shifts 65 = .ok (.iload 5, 2) := by decide +kernel
theorem d_mo_shifts_67 : decode b_mo_shifts 67 = .ok (.iconst 1, 1) := by decide +kernel
theorem d_mo_shifts_68 : decode b_mo_shifts 68 = .ok (.iadd, 1) := by decide +kernel
theorem d_mo_shifts_69 : decode b_mo_shifts 69 = .ok (.invokevirtual 86, 3) := by decide +kernel
theorem d_mo_shifts_72 : decode b_mo_shifts 72 = .ok (.if_icmp .eq 13, 3) := by decide +kernel
theorem d_mo_shifts_75 : decode b_mo_shifts 75 = .ok (.lload_n 2, 1) := by decide +kernel
theorem d_mo_shifts_76 : decode b_mo_shifts 76 = .ok (.iload 5, 2) := by decide +kernel
theorem d_mo_shifts_78 : decode b_mo_shifts 78 = .ok (.i2l, 1) := by decide +kernel
theorem d_mo_shifts_79 : decode b_mo_shifts 79 = .ok (.ladd, 1) := by decide +kernel
theorem d_mo_shifts_80 : decode b_mo_shifts 80 = .ok (.lconst 1, 1) := by decide +kernel
theorem d_mo_shifts_81 : decode b_mo_shifts 81 = .ok (.ladd, 1) := by decide +kernel
theorem d_mo_shifts_82 : decode b_mo_shifts 82 = .ok (.goto 4, 3) := by decide +kernel
theorem d_mo_shifts_85 : decode b_mo_shifts 85 = .ok (.lload_n 2, 1) := by decide +kernel
theorem d_mo_shifts_86 : decode b_mo_shifts 86 = .ok (.lstore_n 2, 1) := by decide +kernel
theorem d_mo_shifts_87 : decode b_mo_shifts 87 = .ok (.iinc 5 1, 3) := by decide +kernel
theorem d_mo_shifts_90 : decode b_mo_shifts 90 = .ok (.goto (-49), 3) := by decide +kernel
theorem d_mo_shifts_93 : decode b_mo_shifts 93 = .ok (.iinc 4 1, 3) := by decide +kernel
theorem d_mo_shifts_96 : decode b_mo_shifts 96 = .ok (.goto (-74), 3) := by decide +kernel
theorem d_mo_shifts_99 : decode b_mo_shifts 99 = .ok (.lload_n 2, 1) := by decide +kernel
theorem d_mo_shifts_100 : decode b_mo_shifts 100 = .ok (.lreturn, 1) := by decide +kernel
theorem d_mo_signature_0 : decode b_mo_signature 0 = .ok (.aload_n 0, 1) := by decide +kernel
theorem d_mo_signature_1 : decode b_mo_signature 1 = .ok (.iload_n 1, 1) := by decide +kernel
theorem d_mo_signature_2 : decode b_mo_signature 2 = .ok (.ifCond .lt 8, 3) := by decide +kernel
theorem d_mo_signature_5 : decode b_mo_signature 5 = .ok (.iload_n 2, 1) := by decide +kernel
theorem d_mo_signature_6 : decode b_mo_signature 6 = .ok (.iload_n 1, 1) := by decide +kernel
theorem d_mo_signature_7 : decode b_mo_signature 7 = .ok (.if_icmp .ge 7, 3) := by decide +kernel
theorem d_mo_signature_10 : decode b_mo_signature 10 = .ok (.iconst 1, 1) := by decide +kernel
theorem d_mo_signature_11 : decode b_mo_signature 11 = .ok (.goto 4, 3) := by decide +kernel
theorem d_mo_signature_14 : decode b_mo_signature 14 = .ok (.iconst 0, 1) := by decide +kernel
theorem d_mo_signature_15 : decode b_mo_signature 15 = .ok (.putfield 42, 3) := by decide +kernel
theorem d_mo_signature_18 : decode b_mo_signature 18 = .ok (.iconst 0, 1) := by decide +kernel
theorem d_mo_signature_19 : decode b_mo_signature 19 = .ok (.istore_n 3, 1) := by decide +kernel
theorem d_mo_signature_20 : decode b_mo_signature 20 = .ok (.iload_n 1, 1) := by decide +kernel
theorem d_mo_signature_21 : decode b_mo_signature 21 = .ok (.istore 4, 2) := by decide +kernel
theorem d_mo_signature_23 : decode b_mo_signature 23 = .ok (.aload_n 0, 1) := by decide +kernel
theorem d_mo_signature_24 : decode b_mo_signature 24 = .ok (.getfield 42, 3) := by decide +kernel
theorem d_mo_signature_27 : decode b_mo_signature 27 = .ok (.ifCond .ne 124, 3) := by decide +kernel
theorem d_mo_signature_30 : decode b_mo_signature 30 = .ok (.iload 4, 2) := by decide +kernel
theorem d_mo_signature_32 : decode b_mo_signature 32 = .ok (.aload_n 0, 1) := by decide +kernel
theorem d_mo_signature_33 : decode b_mo_signature 33 = .ok (.getfield 45, 3) := by decide +kernel
theorem d_mo_signature_36 : decode b_mo_signature 36 = .ok (.if_icmp .ge 115, 3) := by decide +kernel
theorem d_mo_signature_39 : decode b_mo_signature 39 = .ok (.iload 4, 2) := by decide +kernel
theorem d_mo_signature_41 : decode b_mo_signature 41 = .ok (.iload_n 2, 1) := by decide +kernel
theorem d_mo_signature_42 : decode b_mo_signature 42 = .ok (.if_icmp .gt 109, 3) := by decide +kernel
theorem d_mo_signature_45 : decode b_mo_signature 45 = .ok (.aload_n 0, 1) := by decide +kernel
theorem d_mo_signature_46 : decode b_mo_signature 46 = .ok (.getfield 36, 3) := by decide +kernel
theorem d_mo_signature_49 : decode b_mo_signature 49 = .ok (.iconst 1, 1) := by decide +kernel
theorem d_mo_signature_50 : decode b_mo_signature 50 = .ok (.isub, 1) := by decide +kernel
theorem d_mo_signature_51 : decode b_mo_signature 51 = .ok (.istore 5, 2) := by decide +kernel
theorem d_mo_signature_53 : decode b_mo_signature 53 = .ok (.iload 5, 2) := by decide +kernel
theorem d_mo_signature_55 : decode b_mo_signature 55 = .ok (.ifCond .lt 90, 3) := by decide +kernel
theorem d_mo_signature_58 : decode b_mo_signature 58 = .ok (.aload_n 0, 1) := by decide +kernel
theorem d_mo_signature_59 : decode b_mo_signature 59 = .ok (.getfield 20, 3) := by decide +kernel
theorem d_mo_signature_62 : decode b_mo_signature 62 = .ok (.iload 4, 2) := by decide +kernel
theorem d_mo_signature_64 : decode b_mo_signature 64 = .ok (.baload, 1) := by decide +kernel
theorem d_mo_signature_65 : decode b_mo_signature 65 = .ok (.ifCond .ne 80, 3) := by decide +kernel
theorem d_mo_signature_68 : decode b_mo_signature 68 = .ok (.aload_n 0, 1) := by decide +kernel
theorem d_mo_signature_69 : decode b_mo_signature 69 = .ok (.iload_n 3, 1) := by decide +kernel
theorem d_mo_signature_70 : decode b_mo_signature 70 = .ok (.invokevirtual 74, 3) := by decide +kernel
theorem d_mo_signature_73 : decode b_mo_signature 73 = .ok (.istore_n 3, 1) := by decide +kernel
theorem d_mo_signature_74 : decode b_mo_signature 74 = .ok (.iconst 0, 1) := by decide +kernel
theorem d_mo_signature_75 : decode b_mo_signature 75 = .ok (.istore 6, 2) := by decide +kernel
theorem d_mo_signature_77 : decode b_mo_signature 77 = .ok (.iload 6, 2) := by decide +kernel
theorem d_mo_signature_79 : decode b_mo_signature 79 = .ok (.aload_n 0, 1) := by decide +kernel
theorem d_mo_signature_80 : decode b_mo_signature 80 = .ok (.getfield 32, 3) := by decide +kernel
theorem d_mo_signature_83 : decode b_mo_signature 83 = .ok (.if_icmp .ge 56, 3) := by decide +kernel
theorem d_mo_signature_86 : decode b_mo_signature 86 = .ok (.aload_n 0, 1) := by decide +kernel
theorem d_mo_signature_87 : decode b_mo_signature 87 = .ok (.getfield 13, 3) := by decide +kernel
theorem d_mo_signature_90 : decode b_mo_signature 90 = .ok (.aload_n 0, 1) := by decide +kernel
theorem d_mo_signature_91 : decode b_mo_signature 91 = .ok (.iload 4, 2) := by decide +kernel
theorem d_mo_signature_93 : decode b_mo_signature 93 = .ok (.iload 6, 2) := by decide +kernel
theorem d_mo_signature_95 : decode b_mo_signature 95 = .ok (.iload 5, 2) := by decide +kernel
theorem d_mo_signature_97 : decode b_mo_signature 97 = .ok (.invokevirtual 56, 3) := by decide +kernel
theorem d_mo_signature_100 : decode b_mo_signature 100 = .ok (.baload, 1) := by decide +kernel
theorem d_mo_signature_101 : decode b_mo_signature 101 = .ok (.ifCond .eq 7, 3) := by decide +kernel
theorem d_mo_signature_104 : decode b_mo_signature 104 = .ok (.iconst 0, 1) := by decide +kernel
theorem d_mo_signature_105 : decode b_mo_signature 105 = .ok (.goto 13, 3) := by decide +kernel
theorem d_mo_signature_108 : decode b_mo_signature 108 = .ok (.aload_n 0, 1) := by decide +kernel
theorem d_mo_signature_109 : decode b_mo_signature 109 = .ok (.iload 4, 2) := by decide +kernel
theorem d_mo_signature_111 : decode b_mo_signature 111 = .ok (.iload 6, 2) := by decide +kernel
theorem d_mo_signature_113 : decode b_mo_signature 113 = .ok (.iload 5, 2) := by decide +kernel
theorem d_mo_signature_115 : decode b_mo_signature 115 = .ok (.invokevirtual 86, 3) := by decide +kernel
theorem d_mo_signature_118 : decode b_mo_signature 118 = .ok (.istore 7, 2) := by decide +kernel
theorem d_mo_signature_120 : decode b_mo_signature 120 = .ok (.iload_n 3, 1) := by decide +kernel
theorem d_mo_signature_121 : decode b_mo_signature 121 = .ok (.iload 7, 2) := by decide +kernel
theorem d_mo_signature_123 : decode b_mo_signature 123 = .ok (.iload 6, 2) := by decide +kernel
theorem d_mo_signature_125 : decode b_mo_signature 125 = .ok (.aload_n 0, 1) := by decide +kernel
theorem d_mo_signature_126 : decode b_mo_signature 126 = .ok (.getfield 39, 3) := by decide +kernel
theorem d_mo_signature_129 : decode b_mo_signature 129 = .ok (.irem, 1) := by decide +kernel
theorem d_mo_signature_130 : decode b_mo_signature 130 = .ok (.ishl, 1) := by decide +kernel
theorem d_mo_signature_131 : decode b_mo_signature 131 = .ok (.ixor, 1) := by decide +kernel
theorem d_mo_signature_132 : decode b_mo_signature 132 = .ok (.istore_n 3, 1) := by decide +kernel
theorem d_mo_signature_133 : decode b_mo_signature 133 = .ok (.iinc 6 1, 3) := by decide +kernel
theorem d_mo_signature_136 : decode b_mo_signature 136 = .ok (.goto (-59), 3) := by decide +kernel
theorem d_mo_signature_139 : decode b_mo_signature 139 = .ok (.iinc 5 (-1), 3) := by decide +kernel
theorem d_mo_signature_142 : decode b_mo_signature 142 = .ok (.goto (-89), 3) := by decide +kernel
theorem d_mo_signature_145 : decode b_mo_signature 145 = .ok (.iinc 4 1, 3) := by decide +kernel
theorem d_mo_signature_148 : decode b_mo_signature 148 = .ok (.goto (-125), 3) := by decide +kernel
theorem d_mo_signature_151 : decode b_mo_signature 151 = .ok (.iload_n 3, 1) := by decide +kernel
theorem d_mo_signature_152 : decode b_mo_signature 152 = .ok (.i2l, 1) := by decide +kernel
theorem d_mo_signature_153 : decode b_mo_signature 153 = .ok (.lreturn, 1) := by decide +kernel
theorem d_mo_primitive_0 : decode b_mo_primitive 0 = .ok (.aload_n 0, 1) := by decide +kernel
theorem d_mo_primitive_1 : decode b_mo_primitive 1 = .ok (.iconst 0, 1) := by decide +kernel
theorem d_mo_primitive_2 : decode b_mo_primitive 2 = .ok (.putfield 42, 3) := by decide +kernel
theorem d_mo_primitive_5 : decode b_mo_primitive 5 = .ok (.aload_n 0, 1) := by decide +kernel
theorem d_mo_primitive_6 : decode b_mo_primitive 6 = .ok (.iconst 1, 1) := by decide +kernel
theorem d_mo_primitive_7 : decode b_mo_primitive 7 = .ok (.invokevirtual 74, 3) := by decide +kernel
theorem d_mo_primitive_10 : decode b_mo_primitive 10 = .ok (.istore_n 1, 1) := by decide +kernel
theorem d_mo_primitive_11 : decode b_mo_primitive 11 = .ok (.iconst 1, 1) := by decide +kernel
theorem d_mo_primitive_12 : decode b_mo_primitive 12 = .ok (.istore_n 2, 1) := by decide +kernel
theorem d_mo_primitive_13 : decode b_mo_primitive 13 = .ok (.iload_n 1, 1) := by decide +kernel
theorem d_mo_primitive_14 : decode b_mo_primitive 14 = .ok (.iconst 1, 1) := by decide +kernel
theorem d_mo_primitive_15 : decode b_mo_primitive 15 = .ok (.if_icmp .eq 25, 3) := by decide +kernel
theorem d_mo_primitive_18 : decode b_mo_primitive 18 = .ok (.iload_n 2, 1) := by decide +kernel
theorem d_mo_primitive_19 : decode b_mo_primitive 19 = .ok (.iconst 1, 1) := by decide +kernel
theorem d_mo_primitive_20 : decode b_mo_primitive 20 = .ok (.aload_n 0, 1) := by decide +kernel
theorem d_mo_primitive_21 : decode b_mo_primitive 21 = .ok (.getfield 39, 3) := by decide +kernel
theorem d_mo_primitive_24 : decode b_mo_primitive 24 = .ok (.ishl, 1) := by decide +kernel
theorem d_mo_primitive_25 : decode b_mo_primitive 25 = .ok (.if_icmp .ge 15, 3) := by decide +kernel
theorem d_mo_primitive_28 : decode b_mo_primitive 28 = .ok (.aload_n 0, 1) := by decide +kernel
theorem d_mo_primitive_29 : decode b_mo_primitive 29 = .ok (.iload_n 1, 1) := by decide +kernel
theorem d_mo_primitive_30 : decode b_mo_primitive 30 = .ok (.invokevirtual 74, 3) := by decide +kernel
theorem d_mo_primitive_33 : decode b_mo_primitive 33 = .ok (.istore_n 1, 1) := by decide +kernel
theorem d_mo_primitive_34 : decode b_mo_primitive 34 = .ok (.iinc 2 1, 3) := by decide +kernel
theorem d_mo_primitive_37 : decode b_mo_primitive 37 = .ok (.goto (-24), 3) := by decide +kernel
theorem d_mo_primitive_40 : decode b_mo_primitive 40 = .ok (.iload_n 1, 1) := by decide +kernel
theorem d_mo_primitive_41 : decode b_mo_primitive 41 = .ok (.iconst 1, 1) := by decide +kernel
theorem d_mo_primitive_42 : decode b_mo_primitive 42 = .ok (.if_icmp .ne 19, 3) := by decide +kernel
theorem d_mo_primitive_45 : decode b_mo_primitive 45 = .ok (.iload_n 2, 1) := by decide +kernel
theorem d_mo_primitive_46 : decode b_mo_primitive 46 = .ok (.iconst 1, 1) := by decide +kernel
theorem d_mo_primitive_47 : decode b_mo_primitive 47 = .ok (.aload_n 0, 1) := by decide +kernel
theorem d_mo_primitive_48 : decode b_mo_primitive 48 = .ok (.getfield 39, 3) := by decide +kernel
theorem d_mo_primitive_51 : decode b_mo_primitive 51 = .ok (.ishl, 1) := by decide +kernel
theorem d_mo_primitive_52 : decode b_mo_primitive 52 = .ok (.iconst 1, 1) := by decide +kernel
theorem d_mo_primitive_53 : decode b_mo_primitive 53 = .ok (.isub, 1) := by decide +kernel
theorem d_mo_primitive_54 : decode b_mo_primitive 54 = .ok (.if_icmp .ne 7, 3) := by decide +kernel
theorem d_mo_primitive_57 : decode b_mo_primitive 57 = .ok (.iconst 1, 1) := by decide +kernel
theorem d_mo_primitive_58 : decode b_mo_primitive 58 = .ok (.goto 4, 3) := by decide +kernel
theorem d_mo_primitive_61 : decode b_mo_primitive 61 = .ok (.iconst 0, 1) := by decide +kernel
theorem d_mo_primitive_62 : decode b_mo_primitive 62 = .ok (.ireturn, 1) := by decide +kernel
theorem d_mo_rank_0 : decode b_mo_rank 0 = .ok (.iconst 0, 1) := by decide +kernel
theorem d_mo_rank_1 : decode b_mo_rank 1 = .ok (.istore_n 2, 1) := by decide +kernel
theorem d_mo_rank_2 : decode b_mo_rank 2 = .ok (.iload_n 2, 1) := by decide +kernel
theorem d_mo_rank_3 : decode b_mo_rank 3 = .ok (.bipush 16, 2) := by decide +kernel
theorem d_mo_rank_5 : decode b_mo_rank 5 = .ok (.if_icmp .ge 16, 3) := by decide +kernel
theorem d_mo_rank_8 : decode b_mo_rank 8 = .ok (.aload_n 0, 1) := by decide +kernel
theorem d_mo_rank_9 : decode b_mo_rank 9 = .ok (.getfield 29, 3) := by decide +kernel
theorem d_mo_rank_12 : decode b_mo_rank 12 = .ok (.iload_n 2, 1) := by decide +kernel
theorem d_mo_rank_13 : decode b_mo_rank 13 = .ok (.iconst 0, 1) := by decide +kernel
theorem d_mo_rank_14 : decode b_mo_rank 14 = .ok (.iastore, 1) := by decide +kernel
theorem d_mo_rank_15 : decode b_mo_rank 15 = .ok (.iinc 2 1, 3) := by decide +kernel
theorem d_mo_rank_18 : decode b_mo_rank 18 = .ok (.goto (-16), 3) := by decide +kernel
theorem d_mo_rank_21 : decode b_mo_rank 21 = .ok (.iconst 0, 1) := by decide +kernel
theorem d_mo_rank_22 : decode b_mo_rank 22 = .ok (.istore_n 2, 1) := by decide +kernel
theorem d_mo_rank_23 : decode b_mo_rank 23 = .ok (.iconst 1, 1) := by decide +kernel
theorem d_mo_rank_24 : decode b_mo_rank 24 = .ok (.istore_n 3, 1) := by decide +kernel
theorem d_mo_rank_25 : decode b_mo_rank 25 = .ok (.iconst 0, 1) := by decide +kernel
theorem d_mo_rank_26 : decode b_mo_rank 26 = .ok (.istore 4, 2) := by decide +kernel
theorem d_mo_rank_28 : decode b_mo_rank 28 = .ok (.iload 4, 2) := by decide +kernel
theorem d_mo_rank_30 : decode b_mo_rank 30 = .ok (.iload_n 1, 1) := by decide +kernel
theorem d_mo_rank_31 : decode b_mo_rank 31 = .ok (.if_icmp .ge 95, 3) := by decide +kernel
theorem d_mo_rank_34 : decode b_mo_rank 34 = .ok (.iload_n 3, 1) := by decide +kernel
theorem d_mo_rank_35 : decode b_mo_rank 35 = .ok (.istore 5, 2) := by decide +kernel
theorem d_mo_rank_37 : decode b_mo_rank 37 = .ok (.bipush 15, 2) := by decide +kernel
theorem d_mo_rank_39 : decode b_mo_rank 39 = .ok (.istore 6, 2) := by decide +kernel
theorem d_mo_rank_41 : decode b_mo_rank 41 = .ok (.iload 6, 2) := by decide +kernel
theorem d_mo_rank_43 : decode b_mo_rank 43 = .ok (.ifCond .lt 71, 3) := by decide +kernel
theorem d_mo_rank_46 : decode b_mo_rank 46 = .ok (.iload 5, 2) := by decide +kernel
theorem d_mo_rank_48 : decode b_mo_rank 48 = .ok (.iload 6, 2) := by decide +kernel
theorem d_mo_rank_50 : decode b_mo_rank 50 = .ok (.ishr, 1) := by decide +kernel
theorem d_mo_rank_51 : decode b_mo_rank 51 = .ok (.iconst 1, 1) := by decide +kernel
theorem d_mo_rank_52 : decode b_mo_rank 52 = .ok (.iand, 1) := by decide +kernel
theorem d_mo_rank_53 : decode b_mo_rank 53 = .ok (.iconst 1, 1) := by decide +kernel
theorem d_mo_rank_54 : decode b_mo_rank 54 = .ok (.if_icmp .ne 28, 3) := by decide +kernel
theorem d_mo_rank_57 : decode b_mo_rank 57 = .ok (.aload_n 0, 1) := by decide +kernel
theorem d_mo_rank_58 : decode b_mo_rank 58 = .ok (.getfield 29, 3) := by decide +kernel
theorem d_mo_rank_61 : decode b_mo_rank 61 = .ok (.iload 6, 2) := by decide +kernel
theorem d_mo_rank_63 : decode b_mo_rank 63 = .ok (.iaload, 1) := by decide +kernel
theorem d_mo_rank_64 : decode b_mo_rank 64 = .ok (.ifCond .eq 18, 3) := by decide +kernel
theorem d_mo_rank_67 : decode b_mo_rank 67 = .ok (.iload 5, 2) := by decide +kernel
theorem d_mo_rank_69 : decode b_mo_rank 69 = .ok (.aload_n 0, 1) := by decide +kernel
theorem d_mo_rank_70 : decode b_mo_rank 70 = .ok (.getfield 29, 3) := by decide +kernel
theorem d_mo_rank_73 : decode b_mo_rank 73 = .ok (.iload 6, 2) := by decide +kernel
theorem d_mo_rank_75 : decode b_mo_rank 75 = .ok (.iaload, 1) := by decide +kernel
theorem d_mo_rank_76 : decode b_mo_rank 76 = .ok (.ixor, 1) := by decide +kernel
theorem d_mo_rank_77 : decode b_mo_rank 77 = .ok (.istore 5, 2) := by decide +kernel
theorem d_mo_rank_79 : decode b_mo_rank 79 = .ok (.goto 29, 3) := by decide +kernel
theorem d_mo_rank_82 : decode b_mo_rank 82 = .ok (.iload 5, 2) := by decide +kernel
theorem d_mo_rank_84 : decode b_mo_rank 84 = .ok (.iload 6, 2) := by decide +kernel
theorem d_mo_rank_86 : decode b_mo_rank 86 = .ok (.ishr, 1) := by decide +kernel
theorem d_mo_rank_87 : decode b_mo_rank 87 = .ok (.iconst 1, 1) := by decide +kernel
theorem d_mo_rank_88 : decode b_mo_rank 88 = .ok (.iand, 1) := by decide +kernel
theorem d_mo_rank_89 : decode b_mo_rank 89 = .ok (.iconst 1, 1) := by decide +kernel
theorem d_mo_rank_90 : decode b_mo_rank 90 = .ok (.if_icmp .ne 18, 3) := by decide +kernel
theorem d_mo_rank_93 : decode b_mo_rank 93 = .ok (.aload_n 0, 1) := by decide +kernel
theorem d_mo_rank_94 : decode b_mo_rank 94 = .ok (.getfield 29, 3) := by decide +kernel
theorem d_mo_rank_97 : decode b_mo_rank 97 = .ok (.iload 6, 2) := by decide +kernel
theorem d_mo_rank_99 : decode b_mo_rank 99 = .ok (.iload 5, 2) := by decide +kernel
theorem d_mo_rank_101 : decode b_mo_rank 101 = .ok (.iastore, 1) := by decide +kernel
theorem d_mo_rank_102 : decode b_mo_rank 102 = .ok (.iinc 2 1, 3) := by decide +kernel
theorem d_mo_rank_105 : decode b_mo_rank 105 = .ok (.iconst 0, 1) := by decide +kernel
theorem d_mo_rank_106 : decode b_mo_rank 106 = .ok (.istore 5, 2) := by decide +kernel
theorem d_mo_rank_108 : decode b_mo_rank 108 = .ok (.iinc 6 (-1), 3) := by decide +kernel
theorem d_mo_rank_111 : decode b_mo_rank 111 = .ok (.goto (-70), 3) := by decide +kernel
theorem d_mo_rank_114 : decode b_mo_rank 114 = .ok (.aload_n 0, 1) := by decide +kernel
theorem d_mo_rank_115 : decode b_mo_rank 115 = .ok (.iload_n 3, 1) := by decide +kernel
theorem d_mo_rank_116 : decode b_mo_rank 116 = .ok (.invokevirtual 74, 3) := by decide +kernel
theorem d_mo_rank_119 : decode b_mo_rank 119 = .ok (.istore_n 3, 1) := by decide +kernel
theorem d_mo_rank_120 : decode b_mo_rank 120 = .ok (.iinc 4 1, 3) := by decide +kernel
theorem d_mo_rank_123 : decode b_mo_rank 123 = .ok (.goto (-95), 3) := by decide +kernel
theorem d_mo_rank_126 : decode b_mo_rank 126 = .ok (.iload_n 2, 1) := by decide +kernel
theorem d_mo_rank_127 : decode b_mo_rank 127 = .ok (.ireturn, 1) := by decide +kernel
theorem d_mo_alias_0 : decode b_mo_alias 0 = .ok (.aload_n 0, 1) := by decide +kernel
theorem d_mo_alias_1 : decode b_mo_alias 1 = .ok (.iload_n 1, 1) := by decide +kernel
theorem d_mo_alias_2 : decode b_mo_alias 2 = .ok (.iconst 1, 1) := by decide +kernel
theorem d_mo_alias_3 : decode b_mo_alias 3 = .ok (.if_icmp .lt 18, 3) := by decide +kernel
theorem d_mo_alias_6 : decode b_mo_alias 6 = .ok (.iload_n 1, 1) := by decide +kernel
theorem d_mo_alias_7 : decode b_mo_alias 7 = .ok (.bipush 60, 2) := by decide +kernel
theorem d_mo_alias_9 : decode b_mo_alias 9 = .ok (.if_icmp .gt 12, 3) := by decide +kernel
theorem d_mo_alias_12 : decode b_mo_alias 12 = .ok (.iload_n 2, 1) := by decide +kernel
theorem d_mo_alias_13 : decode b_mo_alias 13 = .ok (.ifCond .lt 8, 3) := by decide +kernel
theorem d_mo_alias_16 : decode b_mo_alias 16 = .ok (.iload_n 2, 1) := by decide +kernel
theorem d_mo_alias_17 : decode b_mo_alias 17 = .ok (.iconst 1, 1) := by decide +kernel
theorem d_mo_alias_18 : decode b_mo_alias 18 = .ok (.if_icmp .le 7, 3) := by decide +kernel
theorem d_mo_alias_21 : decode b_mo_alias 21 = .ok (.iconst 1, 1) := by decide +kernel
theorem d_mo_alias_22 : decode b_mo_alias 22 = .ok (.goto 4, 3) := by decide +kernel
theorem d_mo_alias_25 : decode b_mo_alias 25 = .ok (.iconst 0, 1) := by decide +kernel
theorem d_mo_alias_26 : decode b_mo_alias 26 = .ok (.putfield 42, 3) := by decide +kernel
theorem d_mo_alias_29 : decode b_mo_alias 29 = .ok (.aload_n 0, 1) := by decide +kernel
theorem d_mo_alias_30 : decode b_mo_alias 30 = .ok (.getfield 42, 3) := by decide +kernel
theorem d_mo_alias_33 : decode b_mo_alias 33 = .ok (.ifCond .le 5, 3) := by decide +kernel
theorem d_mo_alias_36 : decode b_mo_alias 36 = .ok (.lconst 0, 1) := by decide +kernel
theorem d_mo_alias_37 : decode b_mo_alias 37 = .ok (.lreturn, 1) := by decide +kernel
theorem d_mo_alias_38 : decode b_mo_alias 38 = .ok (.lconst 1, 1) := by decide +kernel
theorem d_mo_alias_39 : decode b_mo_alias 39 = .ok (.iload_n 1, 1) := by decide +kernel
theorem d_mo_alias_40 : decode b_mo_alias 40 = .ok (.aload_n 0, 1) := by decide +kernel
theorem d_mo_alias_41 : decode b_mo_alias 41 = .ok (.iload_n 1, 1) := by decide +kernel
theorem d_mo_alias_42 : decode b_mo_alias 42 = .ok (.invokevirtual 89, 3) := by decide +kernel
theorem d_mo_alias_45 : decode b_mo_alias 45 = .ok (.isub, 1) := by decide +kernel
theorem d_mo_alias_46 : decode b_mo_alias 46 = .ok (.lshl, 1) := by decide +kernel
theorem d_mo_alias_47 : decode b_mo_alias 47 = .ok (.lconst 1, 1) := by decide +kernel
theorem d_mo_alias_48 : decode b_mo_alias 48 = .ok (.lsub, 1) := by decide +kernel
theorem d_mo_alias_49 : decode b_mo_alias 49 = .ok (.lstore_n 3, 1) := by decide +kernel
theorem d_mo_alias_50 : decode b_mo_alias 50 = .ok (.lconst 1, 1) := by decide +kernel
theorem d_mo_alias_51 : decode b_mo_alias 51 = .ok (.iload_n 1, 1) := by decide +kernel
theorem d_mo_alias_52 : decode b_mo_alias 52 = .ok (.lshl, 1) := by decide +kernel
theorem d_mo_alias_53 : decode b_mo_alias 53 = .ok (.lconst 1, 1) := by decide +kernel
theorem d_mo_alias_54 : decode b_mo_alias 54 = .ok (.lsub, 1) := by decide +kernel
theorem d_mo_alias_55 : decode b_mo_alias 55 = .ok (.lstore 5, 2) := by decide +kernel
theorem d_mo_alias_57 : decode b_mo_alias 57 = .ok (.lload 5, 2) := by decide +kernel
theorem d_mo_alias_59 : decode b_mo_alias 59 = .ok (.lstore 7, 2) := by decide +kernel
theorem d_mo_alias_61 : decode b_mo_alias 61 = .ok (.lload_n 3, 1) := by decide +kernel
theorem d_mo_alias_62 : decode b_mo_alias 62 = .ok (.lstore 9, 2) := by decide +kernel
theorem d_mo_alias_64 : decode b_mo_alias 64 = .ok (.lload 9, 2) := by decide +kernel
theorem d_mo_alias_66 : decode b_mo_alias 66 = .ok (.lconst 0, 1) := by decide +kernel
theorem d_mo_alias_67 : decode b_mo_alias 67 = .ok (.lcmp, 1) := by decide +kernel
theorem d_mo_alias_68 : decode b_mo_alias 68 = .ok (.ifCond .eq 21, 3) := by decide +kernel
theorem d_mo_alias_71 : decode b_mo_alias 71 = .ok (.lload 7, 2) := by decide +kernel
theorem d_mo_alias_73 : decode b_mo_alias 73 = .ok (.lload 9, 2) := by decide +kernel
theorem d_mo_alias_75 : decode b_mo_alias 75 = .ok (.lrem, 1) := by decide +kernel
theorem d_mo_alias_76 : decode b_mo_alias 76 = .ok (.lstore 11, 2) := by decide +kernel
theorem d_mo_alias_78 : decode b_mo_alias 78 = .ok (.lload 9, 2) := by decide +kernel
theorem d_mo_alias_80 : decode b_mo_alias 80 = .ok (.lstore 7, 2) := by decide +kernel
theorem d_mo_alias_82 : decode b_mo_alias 82 = .ok (.lload 11, 2) := by decide +kernel
theorem d_mo_alias_84 : decode b_mo_alias 84 = .ok (.lstore 9, 2) := by decide +kernel
theorem d_mo_alias_86 : decode b_mo_alias 86 = .ok (.goto (-22), 3) := by decide +kernel
theorem d_mo_alias_89 : decode b_mo_alias 89 = .ok (.iload_n 2, 1) := by decide +kernel
theorem d_mo_alias_90 : decode b_mo_alias 90 = .ok (.ifCond .ne 10, 3) := by decide +kernel
theorem d_mo_alias_93 : decode b_mo_alias 93 = .ok (.lload_n 3, 1) := by decide +kernel
theorem d_mo_alias_94 : decode b_mo_alias 94 = .ok (.lload 7, 2) := by decide +kernel
theorem d_mo_alias_96 : decode b_mo_alias 96 = .ok (.ldiv, 1) := by decide +kernel
theorem d_mo_alias_97 : decode b_mo_alias 97 = .ok (.goto 8, 3) := by decide +kernel
theorem d_mo_alias_100 : decode b_mo_alias 100 = .ok (.lload 5, 2) := by decide +kernel
theorem d_mo_alias_102 : decode b_mo_alias 102 = .ok (.lload 7, 2) := by decide +kernel
theorem d_mo_alias_104 : decode b_mo_alias 104 = .ok (.ldiv, 1) := by decide +kernel
theorem d_mo_alias_105 : decode b_mo_alias 105 = .ok (.lreturn, 1) := by decide +kernel
theorem d_mo_count_0 : decode b_mo_count 0 = .ok (.aload_n 0, 1) := by decide +kernel
theorem d_mo_count_1 : decode b_mo_count 1 = .ok (.iload_n 1, 1) := by decide +kernel
theorem d_mo_count_2 : decode b_mo_count 2 = .ok (.ifCond .lt 12, 3) := by decide +kernel
theorem d_mo_count_5 : decode b_mo_count 5 = .ok (.iload_n 1, 1) := by decide +kernel
theorem d_mo_count_6 : decode b_mo_count 6 = .ok (.iconst 4, 1) := by decide +kernel
theorem d_mo_count_7 : decode b_mo_count 7 = .ok (.if_icmp .gt 7, 3) := by decide +kernel
theorem d_mo_count_10 : decode b_mo_count 10 = .ok (.iconst 0, 1) := by decide +kernel
theorem d_mo_count_11 : decode b_mo_count 11 = .ok (.goto 4, 3) := by decide +kernel
theorem d_mo_count_14 : decode b_mo_count 14 = .ok (.iconst 1, 1) := by decide +kernel
theorem d_mo_count_15 : decode b_mo_count 15 = .ok (.putfield 42, 3) := by decide +kernel
theorem d_mo_count_18 : decode b_mo_count 18 = .ok (.iconst 0, 1) := by decide +kernel
theorem d_mo_count_19 : decode b_mo_count 19 = .ok (.istore_n 2, 1) := by decide +kernel
theorem d_mo_count_20 : decode b_mo_count 20 = .ok (.iconst 0, 1) := by decide +kernel
theorem d_mo_count_21 : decode b_mo_count 21 = .ok (.istore_n 3, 1) := by decide +kernel
theorem d_mo_count_22 : decode b_mo_count 22 = .ok (.aload_n 0, 1) := by decide +kernel
theorem d_mo_count_23 : decode b_mo_count 23 = .ok (.getfield 42, 3) := by decide +kernel
theorem d_mo_count_26 : decode b_mo_count 26 = .ok (.ifCond .ne 98, 3) := by decide +kernel
theorem d_mo_count_29 : decode b_mo_count 29 = .ok (.iload_n 3, 1) := by decide +kernel
theorem d_mo_count_30 : decode b_mo_count 30 = .ok (.aload_n 0, 1) := by decide +kernel
theorem d_mo_count_31 : decode b_mo_count 31 = .ok (.getfield 45, 3) := by decide +kernel
theorem d_mo_count_34 : decode b_mo_count 34 = .ok (.if_icmp .ge 90, 3) := by decide +kernel
theorem d_mo_count_37 : decode b_mo_count 37 = .ok (.aload_n 0, 1) := by decide +kernel
theorem d_mo_count_38 : decode b_mo_count 38 = .ok (.getfield 20, 3) := by decide +kernel
theorem d_mo_count_41 : decode b_mo_count 41 = .ok (.iload_n 3, 1) := by decide +kernel
theorem d_mo_count_42 : decode b_mo_count 42 = .ok (.baload, 1) := by decide +kernel
theorem d_mo_count_43 : decode b_mo_count 43 = .ok (.ifCond .ne 75, 3) := by decide +kernel
theorem d_mo_count_46 : decode b_mo_count 46 = .ok (.iload_n 1, 1) := by decide +kernel
theorem d_mo_count_47 : decode b_mo_count 47 = .ok (.ifCond .eq 18, 3) := by decide +kernel
theorem d_mo_count_50 : decode b_mo_count 50 = .ok (.iload_n 1, 1) := by decide +kernel
theorem d_mo_count_51 : decode b_mo_count 51 = .ok (.iconst 1, 1) := by decide +kernel
theorem d_mo_count_52 : decode b_mo_count 52 = .ok (.if_icmp .ne 19, 3) := by decide +kernel
theorem d_mo_count_55 : decode b_mo_count 55 = .ok (.aload_n 0, 1) := by decide +kernel
theorem d_mo_count_56 : decode b_mo_count 56 = .ok (.getfield 23, 3) := by decide +kernel
theorem d_mo_count_59 : decode b_mo_count 59 = .ok (.iload_n 3, 1) := by decide +kernel
theorem d_mo_count_60 : decode b_mo_count 60 = .ok (.iaload, 1) := by decide +kernel
theorem d_mo_count_61 : decode b_mo_count 61 = .ok (.iconst (-1), 1) := by decide +kernel
theorem d_mo_count_62 : decode b_mo_count 62 = .ok (.if_icmp .eq 9, 3) := by decide +kernel
theorem d_mo_count_65 : decode b_mo_count 65 = .ok (.iload_n 2, 1) := by decide +kernel
theorem d_mo_count_66 : decode b_mo_count 66 = .ok (.iconst 1, 1) := by decide +kernel
theorem d_mo_count_67 : decode b_mo_count 67 = .ok (.iadd, 1) := by decide +kernel
theorem d_mo_count_68 : decode b_mo_count 68 = .ok (.goto 4, 3) := by decide +kernel
theorem d_mo_count_71 : decode b_mo_count 71 = .ok (.iload_n 2, 1) := by decide +kernel
theorem d_mo_count_72 : decode b_mo_count 72 = .ok (.istore_n 2, 1) := by decide +kernel
theorem d_mo_count_73 : decode b_mo_count 73 = .ok (.iconst 0, 1) := by decide +kernel
theorem d_mo_count_74 : decode b_mo_count 74 = .ok (.istore 4, 2) := by decide +kernel
theorem d_mo_count_76 : decode b_mo_count 76 = .ok (.iload 4, 2) := by decide +kernel
theorem d_mo_count_78 : decode b_mo_count 78 = .ok (.bipush 32, 2) := by decide +kernel
theorem d_mo_count_80 : decode b_mo_count 80 = .ok (.if_icmp .ge 38, 3) := by decide +kernel
theorem d_mo_count_83 : decode b_mo_count 83 = .ok (.iload_n 1, 1) := by decide +kernel
theorem d_mo_count_84 : decode b_mo_count 84 = .ok (.iconst 2, 1) := by decide +kernel
theorem d_mo_count_85 : decode b_mo_count 85 = .ok (.if_icmp .ne 33, 3) := by decide +kernel
theorem d_mo_count_88 : decode b_mo_count 88 = .ok (.aload_n 0, 1) := by decide +kernel
theorem d_mo_count_89 : decode b_mo_count 89 = .ok (.getfield 7, 3) := by decide +kernel
theorem d_mo_count_92 : decode b_mo_count 92 = .ok (.bipush 32, 2) := by decide +kernel
theorem d_mo_count_94 : decode b_mo_count 94 = .ok (.iload_n 3, 1) := by decide +kernel
theorem d_mo_count_95 : decode b_mo_count 95 = .ok (.imul, 1) := by decide +kernel
theorem d_mo_count_96 : decode b_mo_count 96 = .ok (.iload 4, 2) := by decide +kernel
theorem d_mo_count_98 : decode b_mo_count 98 = .ok (.iadd, 1) := by decide +kernel
theorem d_mo_count_99 : decode b_mo_count 99 = .ok (.iaload, 1) := by decide +kernel
theorem d_mo_count_100 : decode b_mo_count 100 = .ok (.iconst (-1), 1) := by decide +kernel
theorem d_mo_count_101 : decode b_mo_count 101 = .ok (.if_icmp .eq 9, 3) := by decide +kernel
theorem d_mo_count_104 : decode b_mo_count 104 = .ok (.iload_n 2, 1) := by decide +kernel
theorem d_mo_count_105 : decode b_mo_count 105 = .ok (.iconst 1, 1) := by decide +kernel
theorem d_mo_count_106 : decode b_mo_count 106 = .ok (.iadd, 1) := by decide +kernel
theorem d_mo_count_107 : decode b_mo_count 107 = .ok (.goto 4, 3) := by decide +kernel
theorem d_mo_count_110 : decode b_mo_count 110 = .ok (.iload_n 2, 1) := by decide +kernel
theorem d_mo_count_111 : decode b_mo_count 111 = .ok (.istore_n 2, 1) := by decide +kernel
theorem d_mo_count_112 : decode b_mo_count 112 = .ok (.iinc 4 1, 3) := by decide +kernel
theorem d_mo_count_115 : decode b_mo_count 115 = .ok (.goto (-39), 3) := by decide +kernel
theorem d_mo_count_118 : decode b_mo_count 118 = .ok (.iinc 3 1, 3) := by decide +kernel
theorem d_mo_count_121 : decode b_mo_count 121 = .ok (.goto (-99), 3) := by decide +kernel
theorem d_mo_count_124 : decode b_mo_count 124 = .ok (.iconst 0, 1) := by decide +kernel
theorem d_mo_count_125 : decode b_mo_count 125 = .ok (.istore_n 3, 1) := by decide +kernel
theorem d_mo_count_126 : decode b_mo_count 126 = .ok (.iload_n 3, 1) := by decide +kernel
theorem d_mo_count_127 : decode b_mo_count 127 = .ok (.bipush 31, 2) := by decide +kernel
theorem d_mo_count_129 : decode b_mo_count 129 = .ok (.if_icmp .ge 30, 3) := by decide +kernel
theorem d_mo_count_132 : decode b_mo_count 132 = .ok (.iload_n 1, 1) := by decide +kernel
theorem d_mo_count_133 : decode b_mo_count 133 = .ok (.iconst 4, 1) := by decide +kernel
theorem d_mo_count_134 : decode b_mo_count 134 = .ok (.if_icmp .ne 25, 3) := by decide +kernel
theorem d_mo_count_137 : decode b_mo_count 137 = .ok (.aload_n 0, 1) := by decide +kernel
theorem d_mo_count_138 : decode b_mo_count 138 = .ok (.iload_n 3, 1) := by decide +kernel
theorem d_mo_count_139 : decode b_mo_count 139 = .ok (.invokevirtual 67, 3) := by decide +kernel
theorem d_mo_count_142 : decode b_mo_count 142 = .ok (.ifCond .le 9, 3) := by decide +kernel
theorem d_mo_count_145 : decode b_mo_count 145 = .ok (.iload_n 2, 1) := by decide +kernel
theorem d_mo_count_146 : decode b_mo_count 146 = .ok (.iconst 1, 1) := by decide +kernel
theorem d_mo_count_147 : decode b_mo_count 147 = .ok (.iadd, 1) := by decide +kernel
theorem d_mo_count_148 : decode b_mo_count 148 = .ok (.goto 4, 3) := by decide +kernel
theorem d_mo_count_151 : decode b_mo_count 151 = .ok (.iload_n 2, 1) := by decide +kernel
theorem d_mo_count_152 : decode b_mo_count 152 = .ok (.istore_n 2, 1) := by decide +kernel
theorem d_mo_count_153 : decode b_mo_count 153 = .ok (.iinc 3 1, 3) := by decide +kernel
theorem d_mo_count_156 : decode b_mo_count 156 = .ok (.goto (-30), 3) := by decide +kernel
theorem d_mo_count_159 : decode b_mo_count 159 = .ok (.aload_n 0, 1) := by decide +kernel
theorem d_mo_count_160 : decode b_mo_count 160 = .ok (.getfield 42, 3) := by decide +kernel
theorem d_mo_count_163 : decode b_mo_count 163 = .ok (.ifCond .le 7, 3) := by decide +kernel
theorem d_mo_count_166 : decode b_mo_count 166 = .ok (.iconst 0, 1) := by decide +kernel
theorem d_mo_count_167 : decode b_mo_count 167 = .ok (.goto 16, 3) := by decide +kernel
theorem d_mo_count_170 : decode b_mo_count 170 = .ok (.iload_n 1, 1) := by decide +kernel
theorem d_mo_count_171 : decode b_mo_count 171 = .ok (.iconst 3, 1) := by decide +kernel
theorem d_mo_count_172 : decode b_mo_count 172 = .ok (.if_icmp .ne 10, 3) := by decide +kernel
theorem d_mo_count_175 : decode b_mo_count 175 = .ok (.aload_n 0, 1) := by decide +kernel
theorem d_mo_count_176 : decode b_mo_count 176 = .ok (.getfield 39, 3) := by decide +kernel
theorem d_mo_count_179 : decode b_mo_count 179 = .ok (.goto 4, 3) := by decide +kernel
theorem d_mo_count_182 : decode b_mo_count 182 = .ok (.iload_n 2, 1) := by decide +kernel
theorem d_mo_count_183 : decode b_mo_count 183 = .ok (.ireturn, 1) := by decide +kernel
