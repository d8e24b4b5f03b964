theorem d_mo_isCell_0 : decode b_mo_isCell 0 = .ok (.iload_n 1, 1) := by decide +kernel
theorem d_mo_isCell_1 : decode b_mo_isCell 1 = .ok (.ifCond .lt 27, 3) := by decide +kernel
theorem d_mo_isCell_4 : decode b_mo_isCell 4 = .ok (.iload_n 1, 1) := by decide +kernel
theorem d_mo_isCell_5 : decode b_mo_isCell 5 = .ok (.aload_n 0, 1) := by decide +kernel
theorem d_mo_isCell_6 : decode b_mo_isCell 6 = .ok (.getfield 32, 3) := by decide +kernel
theorem d_mo_isCell_9 : decode b_mo_isCell 9 = .ok (.if_icmp .ge 19, 3) := by decide +kernel
theorem d_mo_isCell_12 : decode b_mo_isCell 12 = .ok (.iload_n 2, 1) := by decide +kernel
theorem d_mo_isCell_13 : decode b_mo_isCell 13 = .ok (.ifCond .lt 15, 3) := by decide +kernel
theorem d_mo_isCell_16 : decode b_mo_isCell 16 = .ok (.iload_n 2, 1) := by decide +kernel
theorem d_mo_isCell_17 : decode b_mo_isCell 17 = .ok (.aload_n 0, 1) := by decide +kernel
theorem d_mo_isCell_18 : decode b_mo_isCell 18 = .ok (.getfield 36, 3) := by decide +kernel
theorem d_mo_isCell_21 : decode b_mo_isCell 21 = .ok (.if_icmp .ge 7, 3) := by decide +kernel
theorem d_mo_isCell_24 : decode b_mo_isCell 24 = .ok (.iconst 1, 1) := by decide +kernel
theorem d_mo_isCell_25 : decode b_mo_isCell 25 = .ok (.goto 4, 3) := by decide +kernel
theorem d_mo_isCell_28 : decode b_mo_isCell 28 = .ok (.iconst 0, 1) := by decide +kernel
theorem d_mo_isCell_29 : decode b_mo_isCell 29 = .ok (.ireturn, 1) := by decide +kernel
theorem d_mo_place_0 : decode b_mo_place 0 = .ok (.bipush 32, 2) := by decide +kernel
theorem d_mo_place_2 : decode b_mo_place 2 = .ok (.iload_n 1, 1) := by decide +kernel
theorem d_mo_place_3 : decode b_mo_place 3 = .ok (.imul, 1) := by decide +kernel
theorem d_mo_place_4 : decode b_mo_place 4 = .ok (.bipush 8, 2) := by decide +kernel
theorem d_mo_place_6 : decode b_mo_place 6 = .ok (.iload_n 2, 1) := by decide +kernel
theorem d_mo_place_7 : decode b_mo_place 7 = .ok (.imul, 1) := by decide +kernel
theorem d_mo_place_8 : decode b_mo_place 8 = .ok (.iadd, 1) := by decide +kernel
theorem d_mo_place_9 : decode b_mo_place 9 = .ok (.iload_n 3, 1) := by decide +kernel
theorem d_mo_place_10 : decode b_mo_place 10 = .ok (.iadd, 1) := by decide +kernel
theorem d_mo_place_11 : decode b_mo_place 11 = .ok (.ireturn, 1) := by decide +kernel
theorem d_mo_pattern_0 : decode b_mo_pattern 0 = .ok (.aload_n 0, 1) := by decide +kernel
theorem d_mo_pattern_1 : decode b_mo_pattern 1 = .ok (.aload_n 0, 1) := by decide +kernel
theorem d_mo_pattern_2 : decode b_mo_pattern 2 = .ok (.getfield 45, 3) := by decide +kernel
theorem d_mo_pattern_5 : decode b_mo_pattern 5 = .ok (.bipush 24, 2) := by decide +kernel
theorem d_mo_pattern_7 : decode b_mo_pattern 7 = .ok (.if_icmp .ne 7, 3) := by decide +kernel
theorem d_mo_pattern_10 : decode b_mo_pattern 10 = .ok (.iconst 1, 1) := by decide +kernel
theorem d_mo_pattern_11 : decode b_mo_pattern 11 = .ok (.goto 4, 3) := by decide +kernel
theorem d_mo_pattern_14 : decode b_mo_pattern 14 = .ok (.iconst 0, 1) := by decide +kernel
theorem d_mo_pattern_15 : decode b_mo_pattern 15 = .ok (.putfield 42, 3) := by decide +kernel
theorem d_mo_pattern_18 : decode b_mo_pattern 18 = .ok (.aload_n 0, 1) := by decide +kernel
theorem d_mo_pattern_19 : decode b_mo_pattern 19 = .ok (.getfield 42, 3) := by decide +kernel
theorem d_mo_pattern_22 : decode b_mo_pattern 22 = .ok (.ifCond .le 5, 3) := by decide +kernel
theorem d_mo_pattern_25 : decode b_mo_pattern 25 = .ok (.iconst 0, 1) := by decide +kernel
theorem d_mo_pattern_26 : decode b_mo_pattern 26 = .ok (.ireturn, 1) := by decide +kernel
theorem d_mo_pattern_27 : decode b_mo_pattern 27 = .ok (.iconst 0, 1) := by decide +kernel
theorem d_mo_pattern_28 : decode b_mo_pattern 28 = .ok (.istore_n 1, 1) := by decide +kernel
theorem d_mo_pattern_29 : decode b_mo_pattern 29 = .ok (.iload_n 1, 1) := by decide +kernel
theorem d_mo_pattern_30 : decode b_mo_pattern 30 = .ok (.bipush 32, 2) := by decide +kernel
theorem d_mo_pattern_32 : decode b_mo_pattern 32 = .ok (.if_icmp .ge 24, 3) := by decide +kernel
theorem d_mo_pattern_35 : decode b_mo_pattern 35 = .ok (.aload_n 0, 1) := by decide +kernel
theorem d_mo_pattern_36 : decode b_mo_pattern 36 = .ok (.getfield 7, 3) := by decide +kernel
theorem d_mo_pattern_39 : decode b_mo_pattern 39 = .ok (.bipush 32, 2) := by decide +kernel
theorem d_mo_pattern_41 : decode b_mo_pattern 41 = .ok (.aload_n 0, 1) := by decide +kernel
theorem d_mo_pattern_42 : decode b_mo_pattern 42 = .ok (.getfield 45, 3) := by decide +kernel
theorem d_mo_pattern_45 : decode b_mo_pattern 45 = .ok (.imul, 1) := by decide +kernel
theorem d_mo_pattern_46 : decode b_mo_pattern 46 = .ok (.iload_n 1, 1) := by decide +kernel
theorem d_mo_pattern_47 : decode b_mo_pattern 47 = .ok (.iadd, 1) := by decide +kernel
theorem d_mo_pattern_48 : decode b_mo_pattern 48 = .ok (.iconst (-1), 1) := by decide +kernel
theorem d_mo_pattern_49 : decode b_mo_pattern 49 = .ok (.iastore, 1) := by decide +kernel
theorem d_mo_pattern_50 : decode b_mo_pattern 50 = .ok (.iinc 1 1, 3) := by decide +kernel
theorem d_mo_pattern_53 : decode b_mo_pattern 53 = .ok (.goto (-24), 3) := by decide +kernel
theorem d_mo_pattern_56 : decode b_mo_pattern 56 = .ok (.aload_n 0, 1) := by decide +kernel
theorem d_mo_pattern_57 : decode b_mo_pattern 57 = .ok (.getfield 23, 3) := by decide +kernel
theorem d_mo_pattern_60 : decode b_mo_pattern 60 = .ok (.aload_n 0, 1) := by decide +kernel
theorem d_mo_pattern_61 : decode b_mo_pattern 61 = .ok (.getfield 45, 3) := by decide +kernel
theorem d_mo_pattern_64 : decode b_mo_pattern 64 = .ok (.iconst (-1), 1) := by decide +kernel
theorem d_mo_pattern_65 : decode b_mo_pattern 65 = .ok (.iastore, 1) := by decide +kernel
theorem d_mo_pattern_66 : decode b_mo_pattern 66 = .ok (.aload_n 0, 1) := by decide +kernel
theorem d_mo_pattern_67 : decode b_mo_pattern 67 = .ok (.dup, 1) := by decide +kernel
theorem d_mo_pattern_68 : decode b_mo_pattern 68 = .ok (.getfield 45, 3) := by decide +kernel
theorem d_mo_pattern_71 : decode b_mo_pattern 71 = .ok (.iconst 1, 1) := by decide +kernel
theorem d_mo_pattern_72 : decode b_mo_pattern 72 = .ok (.iadd, 1) := by decide +kernel
theorem d_mo_pattern_73 : decode b_mo_pattern 73 = .ok (.putfield 45, 3) := by decide +kernel
theorem d_mo_pattern_76 : decode b_mo_pattern 76 = .ok (.aload_n 0, 1) := by decide +kernel
theorem d_mo_pattern_77 : decode b_mo_pattern 77 = .ok (.getfield 45, 3) := by decide +kernel
theorem d_mo_pattern_80 : decode b_mo_pattern 80 = .ok (.iconst 1, 1) := by decide +kernel
theorem d_mo_pattern_81 : decode b_mo_pattern 81 = .ok (.isub, 1) := by decide +kernel
theorem d_mo_pattern_82 : decode b_mo_pattern 82 = .ok (.ireturn, 1) := by decide +kernel
theorem d_mo_care_0 : decode b_mo_care 0 = .ok (.aload_n 0, 1) := by decide +kernel
theorem d_mo_care_1 : decode b_mo_care 1 = .ok (.aload_n 0, 1) := by decide +kernel
theorem d_mo_care_2 : decode b_mo_care 2 = .ok (.iload_n 1, 1) := by decide +kernel
theorem d_mo_care_3 : decode b_mo_care 3 = .ok (.invokevirtual 48, 3) := by decide +kernel
theorem d_mo_care_6 : decode b_mo_care 6 = .ok (.ifCond .eq 12, 3) := by decide +kernel
theorem d_mo_care_9 : decode b_mo_care 9 = .ok (.aload_n 0, 1) := by decide +kernel
theorem d_mo_care_10 : decode b_mo_care 10 = .ok (.iload_n 2, 1) := by decide +kernel
theorem d_mo_care_11 : decode b_mo_care 11 = .ok (.iload_n 3, 1) := by decide +kernel
theorem d_mo_care_12 : decode b_mo_care 12 = .ok (.invokevirtual 52, 3) := by decide +kernel
theorem d_mo_care_15 : decode b_mo_care 15 = .ok (.ifCond .ne 7, 3) := by decide +kernel
theorem d_mo_care_18 : decode b_mo_care 18 = .ok (.iconst 1, 1) := by decide +kernel
theorem d_mo_care_19 : decode b_mo_care 19 = .ok (.goto 20, 3) := by decide +kernel
theorem d_mo_care_22 : decode b_mo_care 22 = .ok (.iload 4, 2) := by decide +kernel
theorem d_mo_care_24 : decode b_mo_care 24 = .ok (.iconst (-1), 1) := by decide +kernel
theorem d_mo_care_25 : decode b_mo_care 25 = .ok (.if_icmp .lt 9, 3) := by decide +kernel
theorem d_mo_care_28 : decode b_mo_care 28 = .ok (.iload 4, 2) := by decide +kernel
theorem d_mo_care_30 : decode b_mo_care 30 = .ok (.iconst 1, 1) := by decide +kernel
theorem d_mo_care_31 : decode b_mo_care 31 = .ok (.if_icmp .le 7, 3) := by decide +kernel
theorem d_mo_care_34 : decode b_mo_care 34 = .ok (.iconst 2, 1) := by decide +kernel
theorem d_mo_care_35 : decode b_mo_care 35 = .ok (.goto 4, 3) := by decide +kernel
theorem d_mo_care_38 : decode b_mo_care 38 = .ok (.iconst 0, 1) := by decide +kernel
theorem d_mo_care_39 : decode b_mo_care 39 = .ok (.putfield 42, 3) := by decide +kernel
theorem d_mo_care_42 : decode b_mo_care 42 = .ok (.aload_n 0, 1) := by decide +kernel
theorem d_mo_care_43 : decode b_mo_care 43 = .ok (.getfield 42, 3) := by decide +kernel
theorem d_mo_care_46 : decode b_mo_care 46 = .ok (.ifCond .le 5, 3) := by decide +kernel
theorem d_mo_care_49 : decode b_mo_care 49 = .ok (.iconst 0, 1) := by decide +kernel
theorem d_mo_care_50 : decode b_mo_care 50 = .ok (.ireturn, 1) := by decide +kernel
theorem d_mo_care_51 : decode b_mo_care 51 = .ok (.aload_n 0, 1) := by decide +kernel
theorem d_mo_care_52 : decode b_mo_care 52 = .ok (.iload_n 1, 1) := by decide +kernel
theorem d_mo_care_53 : decode b_mo_care 53 = .ok (.iload_n 2, 1) := by decide +kernel
theorem d_mo_care_54 : decode b_mo_care 54 = .ok (.iload_n 3, 1) := by decide +kernel
theorem d_mo_care_55 : decode b_mo_care 55 = .ok (.invokevirtual 56, 3) := by decide +kernel
theorem d_mo_care_58 : decode b_mo_care 58 = .ok (.istore 5, 2) := by decide +kernel
theorem d_mo_care_60 : decode b_mo_care 60 = .ok (.aload_n 0, 1) := by decide +kernel
theorem d_mo_care_61 : decode b_mo_care 61 = .ok (.getfield 7, 3) := by decide +kernel
theorem d_mo_care_64 : decode b_mo_care 64 = .ok (.iload 5, 2) := by decide +kernel
theorem d_mo_care_66 : decode b_mo_care 66 = .ok (.iaload, 1) := by decide +kernel
theorem d_mo_care_67 : decode b_mo_care 67 = .ok (.iload 4, 2) := by decide +kernel
theorem d_mo_care_69 : decode b_mo_care 69 = .ok (.if_icmp .eq 7, 3) := by decide +kernel
theorem d_mo_care_72 : decode b_mo_care 72 = .ok (.iconst 1, 1) := by decide +kernel
theorem d_mo_care_73 : decode b_mo_care 73 = .ok (.goto 4, 3) := by decide +kernel
theorem d_mo_care_76 : decode b_mo_care 76 = .ok (.iconst 0, 1) := by decide +kernel
theorem d_mo_care_77 : decode b_mo_care 77 = .ok (.istore 6, 2) := by decide +kernel
theorem d_mo_care_79 : decode b_mo_care 79 = .ok (.aload_n 0, 1) := by decide +kernel
theorem d_mo_care_80 : decode b_mo_care 80 = .ok (.getfield 7, 3) := by decide +kernel
theorem d_mo_care_83 : decode b_mo_care 83 = .ok (.iload 5, 2) := by decide +kernel
theorem d_mo_care_85 : decode b_mo_care 85 = .ok (.iload 4, 2) := by decide +kernel
theorem d_mo_care_87 : decode b_mo_care 87 = .ok (.iastore, 1) := by decide +kernel
theorem d_mo_care_88 : decode b_mo_care 88 = .ok (.aload_n 0, 1) := by decide +kernel
theorem d_mo_care_89 : decode b_mo_care 89 = .ok (.getfield 23, 3) := by decide +kernel
theorem d_mo_care_92 : decode b_mo_care 92 = .ok (.iload_n 1, 1) := by decide +kernel
theorem d_mo_care_93 : decode b_mo_care 93 = .ok (.iload 6, 2) := by decide +kernel
theorem d_mo_care_95 : decode b_mo_care 95 = .ok (.ifCond .eq 7, 3) := by decide +kernel
theorem d_mo_care_98 : decode b_mo_care 98 = .ok (.iconst (-1), 1) := by decide +kernel
theorem d_mo_care_99 : decode b_mo_care 99 = .ok (.goto 9, 3) := by decide +kernel
theorem d_mo_care_102 : decode b_mo_care 102 = .ok (.aload_n 0, 1) := by decide +kernel
theorem d_mo_care_103 : decode b_mo_care 103 = .ok (.getfield 23, 3) := by decide +kernel
theorem d_mo_care_106 : decode b_mo_care 106 = .ok (.iload_n 1, 1) := by decide +kernel
theorem d_mo_care_107 : decode b_mo_care 107 = .ok (.iaload, 1) := by decide +kernel
theorem d_mo_care_108 : decode b_mo_care 108 = .ok (.iastore, 1) := by decide +kernel
theorem d_mo_care_109 : decode b_mo_care 109 = .ok (.iload 6, 2) := by decide +kernel
theorem d_mo_care_111 : decode b_mo_care 111 = .ok (.ireturn, 1) := by decide +kernel
theorem d_mo_found_0 : decode b_mo_found 0 = .ok (.aload_n 0, 1) := by decide +kernel
theorem d_mo_found_1 : decode b_mo_found 1 = .ok (.aload_n 0, 1) := by decide +kernel
theorem d_mo_found_2 : decode b_mo_found 2 = .ok (.iload_n 1, 1) := by decide +kernel
theorem d_mo_found_3 : decode b_mo_found 3 = .ok (.invokevirtual 48, 3) := by decide +kernel
theorem d_mo_found_6 : decode b_mo_found 6 = .ok (.ifCond .eq 17, 3) := by decide +kernel
theorem d_mo_found_9 : decode b_mo_found 9 = .ok (.iload_n 2, 1) := by decide +kernel
theorem d_mo_found_10 : decode b_mo_found 10 = .ok (.ifCond .lt 13, 3) := by decide +kernel
theorem d_mo_found_13 : decode b_mo_found 13 = .ok (.iload_n 2, 1) := by decide +kernel
theorem d_mo_found_14 : decode b_mo_found 14 = .ok (.bipush 31, 2) := by decide +kernel
theorem d_mo_found_16 : decode b_mo_found 16 = .ok (.if_icmp .ge 7, 3) := by decide +kernel
theorem d_mo_found_19 : decode b_mo_found 19 = .ok (.iconst 0, 1) := by decide +kernel
theorem d_mo_found_20 : decode b_mo_found 20 = .ok (.goto 4, 3) := by decide +kernel
theorem d_mo_found_23 : decode b_mo_found 23 = .ok (.iconst 1, 1) := by decide +kernel
theorem d_mo_found_24 : decode b_mo_found 24 = .ok (.putfield 42, 3) := by decide +kernel
theorem d_mo_found_27 : decode b_mo_found 27 = .ok (.aload_n 0, 1) := by decide +kernel
theorem d_mo_found_28 : decode b_mo_found 28 = .ok (.getfield 42, 3) := by decide +kernel
theorem d_mo_found_31 : decode b_mo_found 31 = .ok (.ifCond .le 5, 3) := by decide +kernel
theorem d_mo_found_34 : decode b_mo_found 34 = .ok (.iconst 0, 1) := by decide +kernel
theorem d_mo_found_35 : decode b_mo_found 35 = .ok (.ireturn, 1) := by decide +kernel
theorem d_mo_found_36 : decode b_mo_found 36 = .ok (.aload_n 0, 1) := by decide +kernel
theorem d_mo_found_37 : decode b_mo_found 37 = .ok (.getfield 17, 3) := by decide +kernel
theorem d_mo_found_40 : decode b_mo_found 40 = .ok (.bipush 31, 2) := by decide +kernel
theorem d_mo_found_42 : decode b_mo_found 42 = .ok (.iload_n 1, 1) := by decide +kernel
theorem d_mo_found_43 : decode b_mo_found 43 = .ok (.imul, 1) := by decide +kernel
theorem d_mo_found_44 : decode b_mo_found 44 = .ok (.iload_n 2, 1) := by decide +kernel
theorem d_mo_found_45 : decode b_mo_found 45 = .ok (.iadd, 1) := by decide +kernel
theorem d_mo_found_46 : decode b_mo_found 46 = .ok (.baload, 1) := by decide +kernel
theorem d_mo_found_47 : decode b_mo_found 47 = .ok (.ifCond .ne 7, 3) := by decide +kernel
theorem d_mo_found_50 : decode b_mo_found 50 = .ok (.iconst 1, 1) := by decide +kernel
theorem d_mo_found_51 : decode b_mo_found 51 = .ok (.goto 4, 3) := by decide +kernel
theorem d_mo_found_54 : decode b_mo_found 54 = .ok (.iconst 0, 1) := by decide +kernel
theorem d_mo_found_55 : decode b_mo_found 55 = .ok (.istore_n 3, 1) := by decide +kernel
theorem d_mo_found_56 : decode b_mo_found 56 = .ok (.aload_n 0, 1) := by decide +kernel
theorem d_mo_found_57 : decode b_mo_found 57 = .ok (.getfield 17, 3) := by decide +kernel
theorem d_mo_found_60 : decode b_mo_found 60 = .ok (.bipush 31, 2) := by decide +kernel
theorem d_mo_found_62 : decode b_mo_found 62 = .ok (.iload_n 1, 1) := by decide +kernel
theorem d_mo_found_63 : decode b_mo_found 63 = .ok (.imul, 1) := by decide +kernel
theorem d_mo_found_64 : decode b_mo_found 64 = .ok (.iload_n 2, 1) := by decide +kernel
theorem d_mo_found_65 : decode b_mo_found 65 = .ok (.iadd, 1) := by decide +kernel
theorem d_mo_found_66 : decode b_mo_found 66 = .ok (.iconst 1, 1) := by decide +kernel
theorem d_mo_found_67 : decode b_mo_found 67 = .ok (.bastore, 1) := by decide +kernel
theorem d_mo_found_68 : decode b_mo_found 68 = .ok (.iload_n 3, 1) := by decide +kernel
theorem d_mo_found_69 : decode b_mo_found 69 = .ok (.ireturn, 1) := by decide +kernel
theorem d_mo_mask_0 : decode b_mo_mask 0 = .ok (.aload_n 0, 1) := by decide +kernel
theorem d_mo_mask_1 : decode b_mo_mask 1 = .ok (.aload_n 0, 1) := by decide +kernel
theorem d_mo_mask_2 : decode b_mo_mask 2 = .ok (.iload_n 1, 1) := by decide +kernel
theorem d_mo_mask_3 : decode b_mo_mask 3 = .ok (.invokevirtual 48, 3) := by decide +kernel
theorem d_mo_mask_6 : decode b_mo_mask 6 = .ok (.ifCond .eq 16, 3) := by decide +kernel
theorem d_mo_mask_9 : decode b_mo_mask 9 = .ok (.aload_n 0, 1) := by decide +kernel
theorem d_mo_mask_10 : decode b_mo_mask 10 = .ok (.iload_n 2, 1) := by decide +kernel
theorem d_mo_mask_11 : decode b_mo_mask 11 = .ok (.iload_n 3, 1) := by decide +kernel
theorem d_mo_mask_12 : decode b_mo_mask 12 = .ok (.invokevirtual 52, 3) := by decide +kernel
theorem d_mo_mask_15 : decode b_mo_mask 15 = .ok (.ifCond .eq 7, 3) := by decide +kernel
theorem d_mo_mask_18 : decode b_mo_mask 18 = .ok (.iconst 0, 1) := by decide +kernel
theorem d_mo_mask_19 : decode b_mo_mask 19 = .ok (.goto 4, 3) := by decide +kernel
theorem d_mo_mask_22 : decode b_mo_mask 22 = .ok (.iconst 1, 1) := by decide +kernel
theorem d_mo_mask_23 : decode b_mo_mask 23 = .ok (.putfield 42, 3) := by decide +kernel
theorem d_mo_mask_26 : decode b_mo_mask 26 = .ok (.aload_n 0, 1) := by decide +kernel
theorem d_mo_mask_27 : decode b_mo_mask 27 = .ok (.getfield 42, 3) := by decide +kernel
theorem d_mo_mask_30 : decode b_mo_mask 30 = .ok (.ifCond .le 5, 3) := by decide +kernel
theorem d_mo_mask_33 : decode b_mo_mask 33 = .ok (.iconst 0, 1) := by decide +kernel
theorem d_mo_mask_34 : decode b_mo_mask 34 = .ok (.ireturn, 1) := by decide +kernel
theorem d_mo_mask_35 : decode b_mo_mask 35 = .ok (.aload_n 0, 1) := by decide +kernel
theorem d_mo_mask_36 : decode b_mo_mask 36 = .ok (.iload_n 1, 1) := by decide +kernel
theorem d_mo_mask_37 : decode b_mo_mask 37 = .ok (.iload_n 2, 1) := by decide +kernel
theorem d_mo_mask_38 : decode b_mo_mask 38 = .ok (.iload_n 3, 1) := by decide +kernel
theorem d_mo_mask_39 : decode b_mo_mask 39 = .ok (.invokevirtual 56, 3) := by decide +kernel
theorem d_mo_mask_42 : decode b_mo_mask 42 = .ok (.istore 4, 2) := by decide +kernel
theorem d_mo_mask_44 : decode b_mo_mask 44 = .ok (.aload_n 0, 1) := by decide +kernel
theorem d_mo_mask_45 : decode b_mo_mask 45 = .ok (.getfield 13, 3) := by decide +kernel
theorem d_mo_mask_48 : decode b_mo_mask 48 = .ok (.iload 4, 2) := by decide +kernel
theorem d_mo_mask_50 : decode b_mo_mask 50 = .ok (.baload, 1) := by decide +kernel
theorem d_mo_mask_51 : decode b_mo_mask 51 = .ok (.ifCond .ne 7, 3) := by decide +kernel
theorem d_mo_mask_54 : decode b_mo_mask 54 = .ok (.iconst 1, 1) := by decide +kernel
theorem d_mo_mask_55 : decode b_mo_mask 55 = .ok (.goto 4, 3) := by decide +kernel
theorem d_mo_mask_58 : decode b_mo_mask 58 = .ok (.iconst 0, 1) := by decide +kernel
theorem d_mo_mask_59 : decode b_mo_mask 59 = .ok (.istore 5, 2) := by decide +kernel
theorem d_mo_mask_61 : decode b_mo_mask 61 = .ok (.aload_n 0, 1) := by decide +kernel
theorem d_mo_mask_62 : decode b_mo_mask 62 = .ok (.getfield 13, 3) := by decide +kernel
theorem d_mo_mask_65 : decode b_mo_mask 65 = .ok (.iload 4, 2) := by decide +kernel
theorem d_mo_mask_67 : decode b_mo_mask 67 = .ok (.iconst 1, 1) := by decide +kernel
theorem d_mo_mask_68 : decode b_mo_mask 68 = .ok (.bastore, 1) := by decide +kernel
theorem d_mo_mask_69 : decode b_mo_mask 69 = .ok (.iload 5, 2) := by decide +kernel
theorem d_mo_mask_71 : decode b_mo_mask 71 = .ok (.ireturn, 1) := by decide +kernel
theorem d_mo_goTogether_0 : decode b_mo_goTogether 0 = .ok (.iconst 1, 1) := by decide +kernel
theorem d_mo_goTogether_1 : decode b_mo_goTogether 1 = .ok (.istore_n 3, 1) := by decide +kernel
theorem d_mo_goTogether_2 : decode b_mo_goTogether 2 = .ok (.iconst 0, 1) := by decide +kernel
theorem d_mo_goTogether_3 : decode b_mo_goTogether 3 = .ok (.istore 4, 2) := by decide +kernel
theorem d_mo_goTogether_5 : decode b_mo_goTogether 5 = .ok (.iload 4, 2) := by decide +kernel
theorem d_mo_goTogether_7 : decode b_mo_goTogether 7 = .ok (.bipush 32, 2) := by decide +kernel
theorem d_mo_goTogether_9 : decode b_mo_goTogether 9 = .ok (.if_icmp .ge 66, 3) := by decide +kernel
theorem d_mo_goTogether_12 : decode b_mo_goTogether 12 = .ok (.aload_n 0, 1) := by decide +kernel
theorem d_mo_goTogether_13 : decode b_mo_goTogether 13 = .ok (.getfield 7, 3) := by decide +kernel
theorem d_mo_goTogether_16 : decode b_mo_goTogether 16 = .ok (.bipush 32, 2) := by decide +kernel
theorem d_mo_goTogether_18 : decode b_mo_goTogether 18 = .ok (.iload_n 1, 1) := by decide +kernel
theorem d_mo_goTogether_19 : decode b_mo_goTogether 19 = .ok (.imul, 1) := by decide +kernel
theorem d_mo_goTogether_20 : decode b_mo_goTogether 20 = .ok (.iload 4, 2) := by decide +kernel
theorem d_mo_goTogether_22 : decode b_mo_goTogether 22 = .ok (.iadd, 1) := by decide +kernel
theorem d_mo_goTogether_23 : decode b_mo_goTogether 23 = .ok (.iaload, 1) := by decide +kernel
theorem d_mo_goTogether_24 : decode b_mo_goTogether 24 = .ok (.istore 5, 2) := by decide +kernel
theorem d_mo_goTogether_26 : decode b_mo_goTogether 26 = .ok (.aload_n 0, 1) := by decide +kernel
theorem d_mo_goTogether_27 : decode b_mo_goTogether 27 = .ok (.getfield 7, 3) := by decide +kernel
theorem d_mo_goTogether_30 : decode b_mo_goTogether 30 = .ok (.bipush 32, 2) := by decide +kernel
theorem d_mo_goTogether_32 : decode b_mo_goTogether 32 = .ok (.iload_n 2, 1) := by decide +kernel
theorem d_mo_goTogether_33 : decode b_mo_goTogether 33 = .ok (.imul, 1) := by decide +kernel
theorem d_mo_goTogether_34 : decode b_mo_goTogether 34 = .ok (.iload 4, 2) := by decide +kernel
theorem d_mo_goTogether_36 : decode b_mo_goTogether 36 = .ok (.iadd, 1) := by decide +kernel
theorem d_mo_goTogether_37 : decode b_mo_goTogether 37 = .ok (.iaload, 1) := by decide +kernel
theorem d_mo_goTogether_38 : decode b_mo_goTogether 38 = .ok (.istore 6, 2) := by decide +kernel
theorem d_mo_goTogether_40 : decode b_mo_goTogether 40 = .ok (.iload_n 3, 1) := by decide +kernel
theorem d_mo_goTogether_41 : decode b_mo_goTogether 41 = .ok (.ifCond .eq 26, 3) := by decide +kernel
theorem d_mo_goTogether_44 : decode b_mo_goTogether 44 = .ok (.iload 5, 2) := by decide +kernel
theorem d_mo_goTogether_46 : decode b_mo_goTogether 46 = .ok (.iconst (-1), 1) := by decide +kernel
theorem d_mo_goTogether_47 : decode b_mo_goTogether 47 = .ok (.if_icmp .eq 16, 3) := by decide +kernel
theorem d_mo_goTogether_50 : decode b_mo_goTogether 50 = .ok (.iload 6, 2) := by decide +kernel
theorem d_mo_goTogether_52 : decode b_mo_goTogether 52 = .ok (.iconst (-1), 1) := by decide +kernel
theorem d_mo_goTogether_53 : decode b_mo_goTogether 53 = .ok (.if_icmp .eq 10, 3) := by decide +kernel
theorem d_mo_goTogether_56 : decode b_mo_goTogether 56 = .ok (.iload 5, 2) := by decide +kernel
theorem d_mo_goTogether_58 : decode b_mo_goTogether 58 = .ok (.iload 6, 2) := by decide +kernel
theorem d_mo_goTogether_60 : decode b_mo_goTogether 60 = .ok (.if_icmp .ne 7, 3) := by decide +kernel
theorem d_mo_goTogether_63 : decode b_mo_goTogether 63 = .ok (.iconst 1, 1) := by decide +kernel
theorem d_mo_goTogether_64 : decode b_mo_goTogether 64 = .ok (.goto 4, 3) := by decide +kernel
theorem d_mo_goTogether_67 : decode b_mo_goTogether 67 = .ok (.iconst 0, 1) := by decide +kernel
theorem d_mo_goTogether_68 : decode b_mo_goTogether 68 = .ok (.istore_n 3, 1) := by decide +kernel
theorem d_mo_goTogether_69 : decode b_mo_goTogether 69 = .ok (.iinc 4 1, 3) := by decide +kernel
theorem d_mo_goTogether_72 : decode b_mo_goTogether 72 = .ok (.goto (-67), 3) := by decide +kernel
theorem d_mo_goTogether_75 : decode b_mo_goTogether 75 = .ok (.iload_n 3, 1) := by decide +kernel
theorem d_mo_goTogether_76 : decode b_mo_goTogether 76 = .ok (.ireturn, 1) := by decide +kernel
theorem d_mo_left_0 : decode b_mo_left 0 = .ok (.iconst 0, 1) := by decide +kernel
theorem d_mo_left_1 : decode b_mo_left 1 = .ok (.istore_n 1, 1) := by decide +kernel
theorem d_mo_left_2 : decode b_mo_left 2 = .ok (.iconst 0, 1) := by decide +kernel
theorem d_mo_left_3 : decode b_mo_left 3 = .ok (.istore_n 2, 1) := by decide +kernel
theorem d_mo_left_4 : decode b_mo_left 4 = .ok (.iload_n 2, 1) := by decide +kernel
theorem d_mo_left_5 : decode b_mo_left 5 = .ok (.aload_n 0, 1) := by decide +kernel
theorem d_mo_left_6 : decode b_mo_left 6 = .ok (.getfield 45, 3) := by decide +kernel
theorem d_mo_left_9 : decode b_mo_left 9 = .ok (.if_icmp .ge 26, 3) := by decide +kernel
theorem d_mo_left_12 : decode b_mo_left 12 = .ok (.aload_n 0, 1) := by decide +kernel
theorem d_mo_left_13 : decode b_mo_left 13 = .ok (.getfield 20, 3) := by decide +kernel
theorem d_mo_left_16 : decode b_mo_left 16 = .ok (.iload_n 2, 1) := by decide +kernel
theorem d_mo_left_17 : decode b_mo_left 17 = .ok (.baload, 1) := by decide +kernel
theorem d_mo_left_18 : decode b_mo_left 18 = .ok (.ifCond .eq 7, 3) := by decide +kernel
theorem d_mo_left_21 : decode b_mo_left 21 = .ok (.iload_n 1, 1) := by decide +kernel
theorem d_mo_left_22 : decode b_mo_left 22 = .ok (.goto 6, 3) := by decide +kernel
theorem d_mo_left_25 : decode b_mo_left 25 = .ok (.iload_n 1, 1) := by decide +kernel
theorem d_mo_left_26 : decode b_mo_left 26 = .ok (.iconst 1, 1) := by decide +kernel
theorem d_mo_left_27 : decode b_mo_left 27 = .ok (.iadd, 1) := by decide +kernel
theorem d_mo_left_28 : decode b_mo_left 28 = .ok (.istore_n 1, 1) := by decide +kernel
theorem d_mo_left_29 : decode b_mo_left 29 = .ok (.iinc 2 1, 3) := by decide +kernel
theorem d_mo_left_32 : decode b_mo_left 32 = .ok (.goto (-28), 3) := by decide +kernel
theorem d_mo_left_35 : decode b_mo_left 35 = .ok (.iload_n 1, 1) := by decide +kernel
theorem d_mo_left_36 : decode b_mo_left 36 = .ok (.ireturn, 1) := by decide +kernel
theorem d_mo_join_0 : decode b_mo_join 0 = .ok (.aload_n 0, 1) := by decide +kernel
theorem d_mo_join_1 : decode b_mo_join 1 = .ok (.iconst 0, 1) := by decide +kernel
theorem d_mo_join_2 : decode b_mo_join 2 = .ok (.putfield 42, 3) := by decide +kernel
theorem d_mo_join_5 : decode b_mo_join 5 = .ok (.iconst 0, 1) := by decide +kernel
theorem d_mo_join_6 : decode b_mo_join 6 = .ok (.istore_n 1, 1) := by decide +kernel
theorem d_mo_join_7 : decode b_mo_join 7 = .ok (.iload_n 1, 1) := by decide +kernel
theorem d_mo_join_8 : decode b_mo_join 8 = .ok (.aload_n 0, 1) := by decide +kernel
theorem d_mo_join_9 : decode b_mo_join 9 = .ok (.getfield 45, 3) := by decide +kernel
theorem d_mo_join_12 : decode b_mo_join 12 = .ok (.if_icmp .ge 235, 3) := by decide +kernel
theorem d_mo_join_15 : decode b_mo_join 15 = .ok (.iload_n 1, 1) := by decide +kernel
theorem d_mo_join_16 : decode b_mo_join 16 = .ok (.iconst 1, 1) := by decide +kernel
theorem d_mo_join_17 : decode b_mo_join 17 = .ok (.iadd, 1) := by decide +kernel
theorem d_mo_join_18 : decode b_mo_join 18 = .ok (.istore_n 2, 1) := by decide +kernel
theorem d_mo_join_19 : decode b_mo_join 19 = .ok (.iload_n 2, 1) := by decide +kernel
theorem d_mo_join_20 : decode b_mo_join 20 = .ok (.aload_n 0, 1) := by decide +kernel
theorem d_mo_join_21 : decode b_mo_join 21 = .ok (.getfield 45, 3) := by decide +kernel
theorem d_mo_join_24 : decode b_mo_join 24 = .ok (.if_icmp .ge 217, 3) := by decide +kernel
theorem d_mo_join_27 : decode b_mo_join 27 = .ok (.aload_n 0, 1) := by decide +kernel
theorem d_mo_join_28 : decode b_mo_join 28 = .ok (.getfield 20, 3) := by decide +kernel
theorem d_mo_join_31 : decode b_mo_join 31 = .ok (.iload_n 1, 1) := by decide +kernel
theorem d_mo_join_32 : decode b_mo_join 32 = .ok (.baload, 1) := by decide +kernel
theorem d_mo_join_33 : decode b_mo_join 33 = .ok (.ifCond .ne 202, 3) := by decide +kernel
theorem d_mo_join_36 : decode b_mo_join 36 = .ok (.aload_n 0, 1) := by decide +kernel
theorem d_mo_join_37 : decode b_mo_join 37 = .ok (.getfield 20, 3) := by decide +kernel
theorem d_mo_join_40 : decode b_mo_join 40 = .ok (.iload_n 2, 1) := by decide +kernel
theorem d_mo_join_41 : decode b_mo_join 41 = .ok (.baload, 1) := by decide +kernel
theorem d_mo_join_42 : decode b_mo_join 42 = .ok (.ifCond .ne 193, 3) := by decide +kernel
theorem d_mo_join_45 : decode b_mo_join 45 = .ok (.aload_n 0, 1) := by decide +kernel
theorem d_mo_join_46 : decode b_mo_join 46 = .ok (.iload_n 1, 1) := by decide +kernel
theorem d_mo_join_47 : decode b_mo_join 47 = .ok (.iload_n 2, 1) := by decide +kernel
theorem d_mo_join_48 : decode b_mo_join 48 = .ok (.invokevirtual 60, 3) := by decide +kernel
theorem d_mo_join_51 : decode b_mo_join 51 = .ok (.ifCond .eq 184, 3) := by decide +kernel
theorem d_mo_join_54 : decode b_mo_join 54 = .ok (.iconst 0, 1) := by decide +kernel
theorem d_mo_join_55 : decode b_mo_join 55 = .ok (.istore_n 3, 1) := by decide +kernel
theorem d_mo_join_56 : decode b_mo_join 56 = .ok (.iload_n 3, 1) := by decide +kernel
theorem d_mo_join_57 : decode b_mo_join 57 = .ok (.bipush 32, 2) := by decide +kernel
theorem d_mo_join_59 : decode b_mo_join 59 = .ok (.if_icmp .ge 104, 3) := by decide +kernel
theorem d_mo_join_62 : decode b_mo_join 62 = .ok (.aload_n 0, 1) := by decide +kernel
theorem d_mo_join_63 : decode b_mo_join 63 = .ok (.getfield 7, 3) := by decide +kernel
theorem d_mo_join_66 : decode b_mo_join 66 = .ok (.bipush 32, 2) := by decide +kernel
theorem d_mo_join_68 : decode b_mo_join 68 = .ok (.iload_n 1, 1) := by decide +kernel
theorem d_mo_join_69 : decode b_mo_join 69 = .ok (.imul, 1) := by decide +kernel
theorem d_mo_join_70 : decode b_mo_join 70 = .ok (.iload_n 3, 1) := by decide +kernel
theorem d_mo_join_71 : decode b_mo_join 71 = .ok (.iadd, 1) := by decide +kernel
theorem d_mo_join_72 : decode b_mo_join 72 = .ok (.aload_n 0, 1) := by decide +kernel
theorem d_mo_join_73 : decode b_mo_join 73 = .ok (.getfield 7, 3) := by decide +kernel
theorem d_mo_join_76 : decode b_mo_join 76 = .ok (.bipush 32, 2) := by decide +kernel
theorem d_mo_join_78 : decode b_mo_join 78 = .ok (.iload_n 2, 1) := by decide +kernel
theorem d_mo_join_79 : decode b_mo_join 79 = .ok (.imul, 1) := by decide +kernel
theorem d_mo_join_80 : decode b_mo_join 80 = .ok (.iload_n 3, 1) := by decide +kernel
theorem d_mo_join_81 : decode b_mo_join 81 = .ok (.iadd, 1) := by decide +kernel
theorem d_mo_join_82 : decode b_mo_join 82 = .ok (.iaload, 1) := by decide +kernel
theorem d_mo_join_83 : decode b_mo_join 83 = .ok (.iconst (-1), 1) := by decide +kernel
theorem d_mo_join_84 : decode b_mo_join 84 = .ok (.if_icmp .ne 17, 3) := by decide +kernel
theorem d_mo_join_87 : decode b_mo_join 87 = .ok (.aload_n 0, 1) := by decide +kernel
theorem d_mo_join_88 : decode b_mo_join 88 = .ok (.getfield 7, 3) := by decide +kernel
theorem d_mo_join_91 : decode b_mo_join 91 = .ok (.bipush 32, 2) := by decide +kernel
theorem d_mo_join_93 : decode b_mo_join 93 = .ok (.iload_n 1, 1) := by decide +kernel
theorem d_mo_join_94 : decode b_mo_join 94 = .ok (.imul, 1) := by decide +kernel
theorem d_mo_join_95 : decode b_mo_join 95 = .ok (.iload_n 3, 1) := by decide +kernel
theorem d_mo_join_96 : decode b_mo_join 96 = .ok (.iadd, 1) := by decide +kernel
theorem d_mo_join_97 : decode b_mo_join 97 = .ok (.iaload, 1) := by decide +kernel
theorem d_mo_join_98 : decode b_mo_join 98 = .ok (.goto 14, 3) := by decide +kernel
theorem d_mo_join_101 : decode b_mo_join 101 = .ok (.aload_n 0, 1) := by decide +kernel
theorem d_mo_join_102 : decode b_mo_join 102 = .ok (.getfield 7, 3) := by decide +kernel
theorem d_mo_join_105 : decode b_mo_join 105 = .ok (.bipush 32, 2) := by decide +kernel
theorem d_mo_join_107 : decode b_mo_join 107 = .ok (.iload_n 2, 1) := by decide +kernel
theorem d_mo_join_108 : decode b_mo_join 108 = .ok (.imul, 1) := by decide +kernel
theorem d_mo_join_109 : decode b_mo_join 109 = .ok (.iload_n 3, 1) := by decide +kernel
theorem d_mo_join_110 : decode b_mo_join 110 = .ok (.iadd, 1) := by decide +kernel
theorem d_mo_join_111 : decode b_mo_join 111 = .ok (.iaload, 1) := by decide +kernel
theorem d_mo_join_112 : decode b_mo_join 112 = .ok (.iastore, 1) := by decide +kernel
theorem d_mo_join_113 : decode b_mo_join 113 = .ok (.aload_n 0, 1) := by decide +kernel
theorem d_mo_join_114 : decode b_mo_join 114 = .ok (.getfield 13, 3) := by decide +kernel
theorem d_mo_join_117 : decode b_mo_join 117 = .ok (.bipush 32, 2) := by decide +kernel
theorem d_mo_join_119 : decode b_mo_join 119 = .ok (.iload_n 1, 1) := by decide +kernel
theorem d_mo_join_120 : decode b_mo_join 120 = .ok (.imul, 1) := by decide +kernel
theorem d_mo_join_121 : decode b_mo_join 121 = .ok (.iload_n 3, 1) := by decide +kernel
theorem d_mo_join_122 : decode b_mo_join 122 = .ok (.iadd, 1) := by decide +kernel
theorem d_mo_join_123 : decode b_mo_join 123 = .ok (.aload_n 0, 1) := by decide +kernel
theorem d_mo_join_124 : decode b_mo_join 124 = .ok (.getfield 13, 3) := by decide +kernel
theorem d_mo_join_127 : decode b_mo_join 127 = .ok (.bipush 32, 2) := by decide +kernel
theorem d_mo_join_129 : decode b_mo_join 129 = .ok (.iload_n 1, 1) := by decide +kernel
theorem d_mo_join_130 : decode b_mo_join 130 = .ok (.imul, 1) := by decide +kernel
theorem d_mo_join_131 : decode b_mo_join 131 = .ok (.iload_n 3, 1) := by decide +kernel
theorem d_mo_join_132 : decode b_mo_join 132 = .ok (.iadd, 1) := by decide +kernel
theorem d_mo_join_133 : decode b_mo_join 133 = .ok (.baload, 1) := by decide +kernel
theorem d_mo_join_134 : decode b_mo_join 134 = .ok (.ifCond .ne 17, 3) := by decide +kernel
theorem d_mo_join_137 : decode b_mo_join 137 = .ok (.aload_n 0, 1) := by decide +kernel
theorem d_mo_join_138 : decode b_mo_join 138 = .ok (.getfield 13, 3) := by decide +kernel
theorem d_mo_join_141 : decode b_mo_join 141 = .ok (.bipush 32, 2) := by decide +kernel
theorem d_mo_join_143 : decode b_mo_join 143 = .ok (.iload_n 2, 1) := by decide +kernel
theorem d_mo_join_144 : decode b_mo_join 144 = .ok (.imul, 1) := by decide +kernel
theorem d_mo_join_145 : decode b_mo_join 145 = .ok (.iload_n 3, 1) := by decide +kernel
theorem d_mo_join_146 : decode b_mo_join 146 = .ok (.iadd, 1) := by decide +kernel
theorem d_mo_join_147 : decode b_mo_join 147 = .ok (.baload, 1) := by decide +kernel
theorem d_mo_join_148 : decode b_mo_join 148 = .ok (.ifCond .eq 7, 3) := by decide +kernel
theorem d_mo_join_151 : decode b_mo_join 151 = .ok (.iconst 1, 1) := by decide +kernel
theorem d_mo_join_152 : decode b_mo_join 152 = .ok (.goto 4, 3) := by decide +kernel
theorem d_mo_join_155 : decode b_mo_join 155 = .ok (.iconst 0, 1) := by decide +kernel
theorem d_mo_join_156 : decode b_mo_join 156 = .ok (.bastore, 1) := by decide +kernel
theorem d_mo_join_157 : decode b_mo_join 157 = .ok (.iinc 3 1, 3) := by decide +kernel
theorem d_mo_join_160 : decode b_mo_join 160 = .ok (.goto (-104), 3) := by decide +kernel
theorem d_mo_join_163 : decode b_mo_join 163 = .ok (.iconst 0, 1) := by decide +kernel
theorem d_mo_join_164 : decode b_mo_join 164 = .ok (.istore_n 3, 1) := by decide +kernel
theorem d_mo_join_165 : decode b_mo_join 165 = .ok (.iload_n 3, 1) := by decide +kernel
theorem d_mo_join_166 : decode b_mo_join 166 = .ok (.bipush 31, 2) := by decide +kernel
theorem d_mo_join_168 : decode b_mo_join 168 = .ok (.if_icmp .ge 53, 3) := by decide +kernel
theorem d_mo_join_171 : decode b_mo_join 171 = .ok (.aload_n 0, 1) := by decide +kernel
theorem d_mo_join_172 : decode b_mo_join 172 = .ok (.getfield 17, 3) := by decide +kernel
theorem d_mo_join_175 : decode b_mo_join 175 = .ok (.bipush 31, 2) := by decide +kernel
theorem d_mo_join_177 : decode b_mo_join 177 = .ok (.iload_n 1, 1) := by decide +kernel
theorem d_mo_join_178 : decode b_mo_join 178 = .ok (.imul, 1) := by decide +kernel
theorem d_mo_join_179 : decode b_mo_join 179 = .ok (.iload_n 3, 1) := by decide +kernel
theorem d_mo_join_180 : decode b_mo_join 180 = .ok (.iadd, 1) := by decide +kernel
theorem d_mo_join_181 : decode b_mo_join 181 = .ok (.aload_n 0, 1) := by decide +kernel
theorem d_mo_join_182 : decode b_mo_join 182 = .ok (.getfield 17, 3) := by decide +kernel
theorem d_mo_join_185 : decode b_mo_join 185 = .ok (.bipush 31, 2) := by decide +kernel
theorem d_mo_join_187 : decode b_mo_join 187 = .ok (.iload_n 1, 1) := by decide +kernel
theorem d_mo_join_188 : decode b_mo_join 188 = .ok (.imul, 1) := by decide +kernel
theorem d_mo_join_189 : decode b_mo_join 189 = .ok (.iload_n 3, 1) := by decide +kernel
theorem d_mo_join_190 : decode b_mo_join 190 = .ok (.iadd, 1) := by decide +kernel
theorem d_mo_join_191 : decode b_mo_join 191 = .ok (.baload, 1) := by decide +kernel
theorem d_mo_join_192 : decode b_mo_join 192 = .ok (.ifCond .ne 17, 3) := by decide +kernel
theorem d_mo_join_195 : decode b_mo_join 195 = .ok (.aload_n 0, 1) := by decide +kernel
theorem d_mo_join_196 : decode b_mo_join 196 = .ok (.getfield 17, 3) := by decide +kernel
theorem d_mo_join_199 : decode b_mo_join 199 = .ok (.bipush 31, 2) := by decide +kernel
theorem d_mo_join_201 : decode b_mo_join 201 = .ok (.iload_n 2, 1) := by decide +kernel
theorem d_mo_join_202 : decode b_mo_join 202 = .ok (.imul, 1) := by decide +kernel
theorem d_mo_join_203 : decode b_mo_join 203 = .ok (.iload_n 3, 1) := by decide +kernel
theorem d_mo_join_204 : decode b_mo_join 204 = .ok (.iadd, 1) := by decide +kernel
theorem d_mo_join_205 : decode b_mo_join 205 = .ok (.baload, 1) := by decide +kernel
theorem d_mo_join_206 : decode b_mo_join 206 = .ok (.ifCond .eq 7, 3) := by decide +kernel
theorem d_mo_join_209 : decode b_mo_join 209 = .ok (.iconst 1, 1) := by decide +kernel
theorem d_mo_join_210 : decode b_mo_join 210 = .ok (.goto 4, 3) := by decide +kernel
theorem d_mo_join_213 : decode b_mo_join 213 = .ok (.iconst 0, 1) := by decide +kernel
theorem d_mo_join_214 : decode b_mo_join 214 = .ok (.bastore, 1) := by decide +kernel
theorem d_mo_join_215 : decode b_mo_join 215 = .ok (.iinc 3 1, 3) := by decide +kernel
theorem d_mo_join_218 : decode b_mo_join 218 = .ok (.goto (-53), 3) := by decide +kernel
theorem d_mo_join_221 : decode b_mo_join 221 = .ok (.aload_n 0, 1) := by decide +kernel
theorem d_mo_join_222 : decode b_mo_join 222 = .ok (.getfield 20, 3) := by decide +kernel
theorem d_mo_join_225 : decode b_mo_join 225 = .ok (.iload_n 2, 1) := by decide +kernel
theorem d_mo_join_226 : decode b_mo_join 226 = .ok (.iconst 1, 1) := by decide +kernel
theorem d_mo_join_227 : decode b_mo_join 227 = .ok (.bastore, 1) := by decide +kernel
theorem d_mo_join_228 : decode b_mo_join 228 = .ok (.aload_n 0, 1) := by decide +kernel
theorem d_mo_join_229 : decode b_mo_join 229 = .ok (.getfield 23, 3) := by decide +kernel
theorem d_mo_join_232 : decode b_mo_join 232 = .ok (.iload_n 1, 1) := by decide +kernel
theorem d_mo_join_233 : decode b_mo_join 233 = .ok (.iconst (-1), 1) := by decide +kernel
theorem d_mo_join_234 : decode b_mo_join 234 = .ok (.iastore, 1) := by decide +kernel
theorem d_mo_join_235 : decode b_mo_join 235 = .ok (.iinc 2 1, 3) := by decide +kernel
theorem d_mo_join_238 : decode b_mo_join 238 = .ok (.goto (-219), 3) := by decide +kernel
theorem d_mo_join_241 : decode b_mo_join 241 = .ok (.iinc 1 1, 3) := by decide +kernel
theorem d_mo_join_244 : decode b_mo_join 244 = .ok (.goto (-237), 3) := by decide +kernel
theorem d_mo_join_247 : decode b_mo_join 247 = .ok (.aload_n 0, 1) := by decide +kernel
theorem d_mo_join_248 : decode b_mo_join 248 = .ok (.invokevirtual 63, 3) := by decide +kernel
theorem d_mo_join_251 : decode b_mo_join 251 = .ok (.ireturn, 1) := by decide +kernel
theorem d_mo_findersOf_0 : decode b_mo_findersOf 0 = .ok (.iconst 0, 1) := by decide +kernel
theorem d_mo_findersOf_1 : decode b_mo_findersOf 1 = .ok (.istore_n 2, 1) := by decide +kernel
theorem d_mo_findersOf_2 : decode b_mo_findersOf 2 = .ok (.iconst 0, 1) := by decide +kernel
theorem d_mo_findersOf_3 : decode b_mo_findersOf 3 = .ok (.istore_n 3, 1) := by decide +kernel
theorem d_mo_findersOf_4 : decode b_mo_findersOf 4 = .ok (.iload_n 3, 1) := by decide +kernel
theorem d_mo_findersOf_5 : decode b_mo_findersOf 5 = .ok (.aload_n 0, 1) := by decide +kernel
theorem d_mo_findersOf_6 : decode b_mo_findersOf 6 = .ok (.getfield 45, 3) := by decide +kernel
theorem d_mo_findersOf_9 : decode b_mo_findersOf 9 = .ok (.if_icmp .ge 40, 3) := by decide +kernel
theorem d_mo_findersOf_12 : decode b_mo_findersOf 12 = .ok (.aload_n 0, 1) := by decide +kernel
theorem d_mo_findersOf_13 : decode b_mo_findersOf 13 = .ok (.getfield 20, 3) := by decide +kernel
theorem d_mo_findersOf_16 : decode b_mo_findersOf 16 = .ok (.iload_n 3, 1) := by decide +kernel
theorem d_mo_findersOf_17 : decode b_mo_findersOf 17 = .ok (.baload, 1) := by decide +kernel
theorem d_mo_findersOf_18 : decode b_mo_findersOf 18 = .ok (.ifCond .ne 23, 3) := by decide +kernel
theorem d_mo_findersOf_21 : decode b_mo_findersOf 21 = .ok (.aload_n 0, 1) := by decide +kernel
theorem d_mo_findersOf_22 : decode b_mo_findersOf 22 = .ok (.getfield 17, 3) := by decide +kernel
theorem d_mo_findersOf_25 : decode b_mo_findersOf 25 = .ok (.bipush 31, 2) := by decide +kernel
theorem d_mo_findersOf_27 : decode b_mo_findersOf 27 = .ok (.iload_n 3, 1) := by decide +kernel
theorem d_mo_findersOf_28 : decode b_mo_findersOf 28 = .ok (.imul, 1) := by decide +kernel
theorem d_mo_findersOf_29 : decode b_mo_findersOf 29 = .ok (.iload_n 1, 1) := by decide +kernel
theorem d_mo_findersOf_30 : decode b_mo_findersOf 30 = .ok (.iadd, 1) := by decide +kernel
theorem d_mo_findersOf_31 : decode b_mo_findersOf 31 = .ok (.baload, 1) := by decide +kernel
theorem d_mo_findersOf_32 : decode b_mo_findersOf 32 = .ok (.ifCond .eq 9, 3) := by decide +kernel
theorem d_mo_findersOf_35 : decode b_mo_findersOf 35 = .ok (.iload_n 2, 1) := by decide +kernel
theorem d_mo_findersOf_36 : decode b_mo_findersOf 36 = .ok (.iconst 1, 1) := by decide +kernel
theorem d_mo_findersOf_37 : decode b_mo_findersOf 37 = .ok (.iadd, 1) := by decide +kernel
theorem d_mo_findersOf_38 : decode b_mo_findersOf 38 = .ok (.goto 4, 3) := by decide +kernel
theorem d_mo_findersOf_41 : decode b_mo_findersOf 41 = .ok (.iload_n 2, 1) := by decide +kernel
theorem d_mo_findersOf_42 : decode b_mo_findersOf 42 = .ok (.istore_n 2, 1) := by decide +kernel
theorem d_mo_findersOf_43 : decode b_mo_findersOf 43 = .ok (.iinc 3 1, 3) := by decide +kernel
theorem d_mo_findersOf_46 : decode b_mo_findersOf 46 = .ok (.goto (-42), 3) := by decide +kernel
theorem d_mo_findersOf_49 : decode b_mo_findersOf 49 = .ok (.iload_n 2, 1) := by decide +kernel
theorem d_mo_findersOf_50 : decode b_mo_findersOf 50 = .ok (.ireturn, 1) := by decide +kernel
