theorem d_ps_init_0 : decode b_ps_init 0 = .ok (.aload_n 0, 1) := by decide +kernel
theorem d_ps_init_1 : decode b_ps_init 1 = .ok (.invokespecial 1, 3) := by decide +kernel
theorem d_ps_init_4 : decode b_ps_init 4 = .ok (.aload_n 0, 1) := by decide +kernel
theorem d_ps_init_5 : decode b_ps_init 5 = .ok (.new 7, 3) := by decide +kernel
theorem d_ps_init_8 : decode b_ps_init 8 = .ok (.dup, 1) := by decide +kernel
theorem d_ps_init_9 : decode b_ps_init 9 = .ok (.iload_n 1, 1) := by decide +kernel
theorem d_ps_init_10 : decode b_ps_init 10 = .ok (.iload_n 2, 1) := by decide +kernel
theorem d_ps_init_11 : decode b_ps_init 11 = .ok (.invokespecial 9, 3) := by decide +kernel
theorem d_ps_init_14 : decode b_ps_init 14 = .ok (.putfield 12, 3) := by decide +kernel
theorem d_ps_init_17 : decode b_ps_init 17 = .ok (.aload_n 0, 1) := by decide +kernel
theorem d_ps_init_18 : decode b_ps_init 18 = .ok (.new 18, 3) := by decide +kernel
theorem d_ps_init_21 : decode b_ps_init 21 = .ok (.dup, 1) := by decide +kernel
theorem d_ps_init_22 : decode b_ps_init 22 = .ok (.aload_n 0, 1) := by decide +kernel
theorem d_ps_init_23 : decode b_ps_init 23 = .ok (.getfield 12, 3) := by decide +kernel
theorem d_ps_init_26 : decode b_ps_init 26 = .ok (.invokespecial 20, 3) := by decide +kernel
theorem d_ps_init_29 : decode b_ps_init 29 = .ok (.putfield 23, 3) := by decide +kernel
theorem d_ps_init_32 : decode b_ps_init 32 = .ok (.aload_n 0, 1) := by decide +kernel
theorem d_ps_init_33 : decode b_ps_init 33 = .ok (.bipush 24, 2) := by decide +kernel
theorem d_ps_init_35 : decode b_ps_init 35 = .ok (.anewarray 27, 3) := by decide +kernel
theorem d_ps_init_38 : decode b_ps_init 38 = .ok (.putfield 29, 3) := by decide +kernel
theorem d_ps_init_41 : decode b_ps_init 41 = .ok (.aload_n 0, 1) := by decide +kernel
theorem d_ps_init_42 : decode b_ps_init 42 = .ok (.iconst 0, 1) := by decide +kernel
theorem d_ps_init_43 : decode b_ps_init 43 = .ok (.putfield 33, 3) := by decide +kernel
theorem d_ps_init_46 : decode b_ps_init 46 = .ok (.aload_n 0, 1) := by decide +kernel
theorem d_ps_init_47 : decode b_ps_init 47 = .ok (.iconst 0, 1) := by decide +kernel
theorem d_ps_init_48 : decode b_ps_init 48 = .ok (.putfield 37, 3) := by decide +kernel
theorem d_ps_init_51 : decode b_ps_init 51 = .ok (.return_, 1) := by decide +kernel
theorem d_ps_pattern_0 : decode b_ps_pattern 0 = .ok (.aload_n 0, 1) := by decide +kernel
theorem d_ps_pattern_1 : decode b_ps_pattern 1 = .ok (.getfield 33, 3) := by decide +kernel
theorem d_ps_pattern_4 : decode b_ps_pattern 4 = .ok (.ifCond .lt 15, 3) := by decide +kernel
theorem d_ps_pattern_7 : decode b_ps_pattern 7 = .ok (.aload_n 0, 1) := by decide +kernel
theorem d_ps_pattern_8 : decode b_ps_pattern 8 = .ok (.getfield 33, 3) := by decide +kernel
theorem d_ps_pattern_11 : decode b_ps_pattern 11 = .ok (.aload_n 0, 1) := by decide +kernel
theorem d_ps_pattern_12 : decode b_ps_pattern 12 = .ok (.getfield 29, 3) := by decide +kernel
theorem d_ps_pattern_15 : decode b_ps_pattern 15 = .ok (.arraylength, 1) := by decide +kernel
theorem d_ps_pattern_16 : decode b_ps_pattern 16 = .ok (.if_icmp .lt 13, 3) := by decide +kernel
theorem d_ps_pattern_19 : decode b_ps_pattern 19 = .ok (.new 40, 3) := by decide +kernel
theorem d_ps_pattern_22 : decode b_ps_pattern 22 = .ok (.dup, 1) := by decide +kernel
theorem d_ps_pattern_23 : decode b_ps_pattern 23 = .ok (.ldc 42, 2) := by decide +kernel
theorem d_ps_pattern_25 : decode b_ps_pattern 25 = .ok (.invokespecial 44, 3) := by decide +kernel
theorem d_ps_pattern_28 : decode b_ps_pattern 28 = .ok (.athrow, 1) := by decide +kernel
theorem d_ps_pattern_29 : decode b_ps_pattern 29 = .ok (.aload_n 0, 1) := by decide +kernel
theorem d_ps_pattern_30 : decode b_ps_pattern 30 = .ok (.getfield 33, 3) := by decide +kernel
theorem d_ps_pattern_33 : decode b_ps_pattern 33 = .ok (.istore_n 1, 1) := by decide +kernel
theorem d_ps_pattern_34 : decode b_ps_pattern 34 = .ok (.aload_n 0, 1) := by decide +kernel
theorem d_ps_pattern_35 : decode b_ps_pattern 35 = .ok (.getfield 29, 3) := by decide +kernel
theorem d_ps_pattern_38 : decode b_ps_pattern 38 = .ok (.iload_n 1, 1) := by decide +kernel
theorem d_ps_pattern_39 : decode b_ps_pattern 39 = .ok (.new 27, 3) := by decide +kernel
theorem d_ps_pattern_42 : decode b_ps_pattern 42 = .ok (.dup, 1) := by decide +kernel
theorem d_ps_pattern_43 : decode b_ps_pattern 43 = .ok (.invokespecial 47, 3) := by decide +kernel
theorem d_ps_pattern_46 : decode b_ps_pattern 46 = .ok (.aastore, 1) := by decide +kernel
theorem d_ps_pattern_47 : decode b_ps_pattern 47 = .ok (.aload_n 0, 1) := by decide +kernel
theorem d_ps_pattern_48 : decode b_ps_pattern 48 = .ok (.iload_n 1, 1) := by decide +kernel
theorem d_ps_pattern_49 : decode b_ps_pattern 49 = .ok (.iconst 1, 1) := by decide +kernel
theorem d_ps_pattern_50 : decode b_ps_pattern 50 = .ok (.iadd, 1) := by decide +kernel
theorem d_ps_pattern_51 : decode b_ps_pattern 51 = .ok (.putfield 33, 3) := by decide +kernel
theorem d_ps_pattern_54 : decode b_ps_pattern 54 = .ok (.iload_n 1, 1) := by decide +kernel
theorem d_ps_pattern_55 : decode b_ps_pattern 55 = .ok (.ireturn, 1) := by decide +kernel
theorem d_ps_care_0 : decode b_ps_care 0 = .ok (.aload_n 0, 1) := by decide +kernel
theorem d_ps_care_1 : decode b_ps_care 1 = .ok (.iload_n 1, 1) := by decide +kernel
theorem d_ps_care_2 : decode b_ps_care 2 = .ok (.invokevirtual 48, 3) := by decide +kernel
theorem d_ps_care_5 : decode b_ps_care 5 = .ok (.astore 5, 2) := by decide +kernel
theorem d_ps_care_7 : decode b_ps_care 7 = .ok (.aload_n 0, 1) := by decide +kernel
theorem d_ps_care_8 : decode b_ps_care 8 = .ok (.iload_n 2, 1) := by decide +kernel
theorem d_ps_care_9 : decode b_ps_care 9 = .ok (.iload_n 3, 1) := by decide +kernel
theorem d_ps_care_10 : decode b_ps_care 10 = .ok (.invokevirtual 52, 3) := by decide +kernel
theorem d_ps_care_13 : decode b_ps_care 13 = .ok (.istore 6, 2) := by decide +kernel
theorem d_ps_care_15 : decode b_ps_care 15 = .ok (.iload 4, 2) := by decide +kernel
theorem d_ps_care_17 : decode b_ps_care 17 = .ok (.iconst (-1), 1) := by decide +kernel
theorem d_ps_care_18 : decode b_ps_care 18 = .ok (.if_icmp .eq 24, 3) := by decide +kernel
theorem d_ps_care_21 : decode b_ps_care 21 = .ok (.iload 4, 2) := by decide +kernel
theorem d_ps_care_23 : decode b_ps_care 23 = .ok (.ifCond .eq 19, 3) := by decide +kernel
theorem d_ps_care_26 : decode b_ps_care 26 = .ok (.iload 4, 2) := by decide +kernel
theorem d_ps_care_28 : decode b_ps_care 28 = .ok (.iconst 1, 1) := by decide +kernel
theorem d_ps_care_29 : decode b_ps_care 29 = .ok (.if_icmp .eq 13, 3) := by decide +kernel
theorem d_ps_care_32 : decode b_ps_care 32 = .ok (.new 56, 3) := by decide +kernel
theorem d_ps_care_35 : decode b_ps_care 35 = .ok (.dup, 1) := by decide +kernel
theorem d_ps_care_36 : decode b_ps_care 36 = .ok (.ldc 58, 2) := by decide +kernel
theorem d_ps_care_38 : decode b_ps_care 38 = .ok (.invokespecial 60, 3) := by decide +kernel
theorem d_ps_care_41 : decode b_ps_care 41 = .ok (.athrow, 1) := by decide +kernel
theorem d_ps_care_42 : decode b_ps_care 42 = .ok (.aload 5, 2) := by decide +kernel
theorem d_ps_care_44 : decode b_ps_care 44 = .ok (.iload 6, 2) := by decide +kernel
theorem d_ps_care_46 : decode b_ps_care 46 = .ok (.iload 4, 2) := by decide +kernel
theorem d_ps_care_48 : decode b_ps_care 48 = .ok (.invokevirtual 61, 3) := by decide +kernel
theorem d_ps_care_51 : decode b_ps_care 51 = .ok (.ireturn, 1) := by decide +kernel
theorem d_ps_join_0 : decode b_ps_join 0 = .ok (.iconst 0, 1) := by decide +kernel
theorem d_ps_join_1 : decode b_ps_join 1 = .ok (.istore_n 1, 1) := by decide +kernel
theorem d_ps_join_2 : decode b_ps_join 2 = .ok (.iload_n 1, 1) := by decide +kernel
theorem d_ps_join_3 : decode b_ps_join 3 = .ok (.aload_n 0, 1) := by decide +kernel
theorem d_ps_join_4 : decode b_ps_join 4 = .ok (.getfield 29, 3) := by decide +kernel
theorem d_ps_join_7 : decode b_ps_join 7 = .ok (.arraylength, 1) := by decide +kernel
theorem d_ps_join_8 : decode b_ps_join 8 = .ok (.if_icmp .ge 25, 3) := by decide +kernel
theorem d_ps_join_11 : decode b_ps_join 11 = .ok (.aload_n 0, 1) := by decide +kernel
theorem d_ps_join_12 : decode b_ps_join 12 = .ok (.iload_n 1, 1) := by decide +kernel
theorem d_ps_join_13 : decode b_ps_join 13 = .ok (.invokevirtual 65, 3) := by decide +kernel
theorem d_ps_join_16 : decode b_ps_join 16 = .ok (.astore_n 2, 1) := by decide +kernel
theorem d_ps_join_17 : decode b_ps_join 17 = .ok (.aload_n 2, 1) := by decide +kernel
theorem d_ps_join_18 : decode b_ps_join 18 = .ok (.ifnull 9, 3) := by decide +kernel
theorem d_ps_join_21 : decode b_ps_join 21 = .ok (.aload_n 0, 1) := by decide +kernel
theorem d_ps_join_22 : decode b_ps_join 22 = .ok (.aload_n 2, 1) := by decide +kernel
theorem d_ps_join_23 : decode b_ps_join 23 = .ok (.iload_n 1, 1) := by decide +kernel
theorem d_ps_join_24 : decode b_ps_join 24 = .ok (.invokevirtual 68, 3) := by decide +kernel
theorem d_ps_join_27 : decode b_ps_join 27 = .ok (.iinc 1 1, 3) := by decide +kernel
theorem d_ps_join_30 : decode b_ps_join 30 = .ok (.goto (-28), 3) := by decide +kernel
theorem d_ps_join_33 : decode b_ps_join 33 = .ok (.aload_n 0, 1) := by decide +kernel
theorem d_ps_join_34 : decode b_ps_join 34 = .ok (.invokevirtual 72, 3) := by decide +kernel
theorem d_ps_join_37 : decode b_ps_join 37 = .ok (.ireturn, 1) := by decide +kernel
theorem d_ps_degree_0 : decode b_ps_degree 0 = .ok (.iload_n 1, 1) := by decide +kernel
theorem d_ps_degree_1 : decode b_ps_degree 1 = .ok (.iconst 1, 1) := by decide +kernel
theorem d_ps_degree_2 : decode b_ps_degree 2 = .ok (.if_icmp .lt 9, 3) := by decide +kernel
theorem d_ps_degree_5 : decode b_ps_degree 5 = .ok (.iload_n 1, 1) := by decide +kernel
theorem d_ps_degree_6 : decode b_ps_degree 6 = .ok (.bipush 16, 2) := by decide +kernel
theorem d_ps_degree_8 : decode b_ps_degree 8 = .ok (.if_icmp .le 13, 3) := by decide +kernel
theorem d_ps_degree_11 : decode b_ps_degree 11 = .ok (.new 56, 3) := by decide +kernel
theorem d_ps_degree_14 : decode b_ps_degree 14 = .ok (.dup, 1) := by decide +kernel
theorem d_ps_degree_15 : decode b_ps_degree 15 = .ok (.ldc 76, 2) := by decide +kernel
theorem d_ps_degree_17 : decode b_ps_degree 17 = .ok (.invokespecial 60, 3) := by decide +kernel
theorem d_ps_degree_20 : decode b_ps_degree 20 = .ok (.athrow, 1) := by decide +kernel
theorem d_ps_degree_21 : decode b_ps_degree 21 = .ok (.aload_n 0, 1) := by decide +kernel
theorem d_ps_degree_22 : decode b_ps_degree 22 = .ok (.getfield 23, 3) := by decide +kernel
theorem d_ps_degree_25 : decode b_ps_degree 25 = .ok (.iload_n 1, 1) := by decide +kernel
theorem d_ps_degree_26 : decode b_ps_degree 26 = .ok (.invokevirtual 78, 3) := by decide +kernel
theorem d_ps_degree_29 : decode b_ps_degree 29 = .ok (.aload_n 0, 1) := by decide +kernel
theorem d_ps_degree_30 : decode b_ps_degree 30 = .ok (.invokevirtual 82, 3) := by decide +kernel
theorem d_ps_degree_33 : decode b_ps_degree 33 = .ok (.return_, 1) := by decide +kernel
theorem d_ps_machine_0 : decode b_ps_machine 0 = .ok (.iload_n 1, 1) := by decide +kernel
theorem d_ps_machine_1 : decode b_ps_machine 1 = .ok (.ifCond .lt 14, 3) := by decide +kernel
theorem d_ps_machine_4 : decode b_ps_machine 4 = .ok (.iload_n 1, 1) := by decide +kernel
theorem d_ps_machine_5 : decode b_ps_machine 5 = .ok (.aload_n 0, 1) := by decide +kernel
theorem d_ps_machine_6 : decode b_ps_machine 6 = .ok (.getfield 23, 3) := by decide +kernel
theorem d_ps_machine_9 : decode b_ps_machine 9 = .ok (.getfield 85, 3) := by decide +kernel
theorem d_ps_machine_12 : decode b_ps_machine 12 = .ok (.if_icmp .lt 13, 3) := by decide +kernel
theorem d_ps_machine_15 : decode b_ps_machine 15 = .ok (.new 88, 3) := by decide +kernel
theorem d_ps_machine_18 : decode b_ps_machine 18 = .ok (.dup, 1) := by decide +kernel
theorem d_ps_machine_19 : decode b_ps_machine 19 = .ok (.ldc 90, 2) := by decide +kernel
theorem d_ps_machine_21 : decode b_ps_machine 21 = .ok (.invokespecial 92, 3) := by decide +kernel
theorem d_ps_machine_24 : decode b_ps_machine 24 = .ok (.athrow, 1) := by decide +kernel
theorem d_ps_machine_25 : decode b_ps_machine 25 = .ok (.iload_n 1, 1) := by decide +kernel
theorem d_ps_machine_26 : decode b_ps_machine 26 = .ok (.aload_n 0, 1) := by decide +kernel
theorem d_ps_machine_27 : decode b_ps_machine 27 = .ok (.getfield 23, 3) := by decide +kernel
theorem d_ps_machine_30 : decode b_ps_machine 30 = .ok (.getfield 85, 3) := by decide +kernel
theorem d_ps_machine_33 : decode b_ps_machine 33 = .ok (.iconst 1, 1) := by decide +kernel
theorem d_ps_machine_34 : decode b_ps_machine 34 = .ok (.isub, 1) := by decide +kernel
theorem d_ps_machine_35 : decode b_ps_machine 35 = .ok (.if_icmp .ne 17, 3) := by decide +kernel
theorem d_ps_machine_38 : decode b_ps_machine 38 = .ok (.iload_n 2, 1) := by decide +kernel
theorem d_ps_machine_39 : decode b_ps_machine 39 = .ok (.ifCond .ne 13, 3) := by decide +kernel
theorem d_ps_machine_42 : decode b_ps_machine 42 = .ok (.new 56, 3) := by decide +kernel
theorem d_ps_machine_45 : decode b_ps_machine 45 = .ok (.dup, 1) := by decide +kernel
theorem d_ps_machine_46 : decode b_ps_machine 46 = .ok (.ldc 93, 2) := by decide +kernel
theorem d_ps_machine_48 : decode b_ps_machine 48 = .ok (.invokespecial 60, 3) := by decide +kernel
theorem d_ps_machine_51 : decode b_ps_machine 51 = .ok (.athrow, 1) := by decide +kernel
theorem d_ps_machine_52 : decode b_ps_machine 52 = .ok (.aload_n 0, 1) := by decide +kernel
theorem d_ps_machine_53 : decode b_ps_machine 53 = .ok (.getfield 23, 3) := by decide +kernel
theorem d_ps_machine_56 : decode b_ps_machine 56 = .ok (.iload_n 1, 1) := by decide +kernel
theorem d_ps_machine_57 : decode b_ps_machine 57 = .ok (.invokevirtual 95, 3) := by decide +kernel
theorem d_ps_machine_60 : decode b_ps_machine 60 = .ok (.iload_n 2, 1) := by decide +kernel
theorem d_ps_machine_61 : decode b_ps_machine 61 = .ok (.if_icmp .ne 5, 3) := by decide +kernel
theorem d_ps_machine_64 : decode b_ps_machine 64 = .ok (.iconst 0, 1) := by decide +kernel
theorem d_ps_machine_65 : decode b_ps_machine 65 = .ok (.ireturn, 1) := by decide +kernel
theorem d_ps_machine_66 : decode b_ps_machine 66 = .ok (.aload_n 0, 1) := by decide +kernel
theorem d_ps_machine_67 : decode b_ps_machine 67 = .ok (.getfield 23, 3) := by decide +kernel
theorem d_ps_machine_70 : decode b_ps_machine 70 = .ok (.iload_n 1, 1) := by decide +kernel
theorem d_ps_machine_71 : decode b_ps_machine 71 = .ok (.invokevirtual 99, 3) := by decide +kernel
theorem d_ps_machine_74 : decode b_ps_machine 74 = .ok (.aload_n 0, 1) := by decide +kernel
theorem d_ps_machine_75 : decode b_ps_machine 75 = .ok (.invokevirtual 82, 3) := by decide +kernel
theorem d_ps_machine_78 : decode b_ps_machine 78 = .ok (.iconst 1, 1) := by decide +kernel
theorem d_ps_machine_79 : decode b_ps_machine 79 = .ok (.ireturn, 1) := by decide +kernel
theorem d_ps_seed_0 : decode b_ps_seed 0 = .ok (.aload_n 0, 1) := by decide +kernel
theorem d_ps_seed_1 : decode b_ps_seed 1 = .ok (.iload_n 1, 1) := by decide +kernel
theorem d_ps_seed_2 : decode b_ps_seed 2 = .ok (.invokevirtual 48, 3) := by decide +kernel
theorem d_ps_seed_5 : decode b_ps_seed 5 = .ok (.astore_n 2, 1) := by decide +kernel
theorem d_ps_seed_6 : decode b_ps_seed 6 = .ok (.aload_n 2, 1) := by decide +kernel
theorem d_ps_seed_7 : decode b_ps_seed 7 = .ok (.aload_n 0, 1) := by decide +kernel
theorem d_ps_seed_8 : decode b_ps_seed 8 = .ok (.getfield 23, 3) := by decide +kernel
theorem d_ps_seed_11 : decode b_ps_seed 11 = .ok (.aload_n 2, 1) := by decide +kernel
theorem d_ps_seed_12 : decode b_ps_seed 12 = .ok (.getfield 102, 3) := by decide +kernel
theorem d_ps_seed_15 : decode b_ps_seed 15 = .ok (.aload_n 2, 1) := by decide +kernel
theorem d_ps_seed_16 : decode b_ps_seed 16 = .ok (.getfield 105, 3) := by decide +kernel
theorem d_ps_seed_19 : decode b_ps_seed 19 = .ok (.invokevirtual 108, 3) := by decide +kernel
theorem d_ps_seed_22 : decode b_ps_seed 22 = .ok (.putfield 111, 3) := by decide +kernel
theorem d_ps_seed_25 : decode b_ps_seed 25 = .ok (.aload_n 2, 1) := by decide +kernel
theorem d_ps_seed_26 : decode b_ps_seed 26 = .ok (.getfield 111, 3) := by decide +kernel
theorem d_ps_seed_29 : decode b_ps_seed 29 = .ok (.iconst (-1), 1) := by decide +kernel
theorem d_ps_seed_30 : decode b_ps_seed 30 = .ok (.if_icmp .ne 7, 3) := by decide +kernel
theorem d_ps_seed_33 : decode b_ps_seed 33 = .ok (.iconst 1, 1) := by decide +kernel
theorem d_ps_seed_34 : decode b_ps_seed 34 = .ok (.goto 4, 3) := by decide +kernel
theorem d_ps_seed_37 : decode b_ps_seed 37 = .ok (.iconst 0, 1) := by decide +kernel
theorem d_ps_seed_38 : decode b_ps_seed 38 = .ok (.ireturn, 1) := by decide +kernel
theorem d_ps_seedOf_0 : decode b_ps_seedOf 0 = .ok (.aload_n 0, 1) := by decide +kernel
theorem d_ps_seedOf_1 : decode b_ps_seedOf 1 = .ok (.iload_n 1, 1) := by decide +kernel
theorem d_ps_seedOf_2 : decode b_ps_seedOf 2 = .ok (.invokevirtual 48, 3) := by decide +kernel
theorem d_ps_seedOf_5 : decode b_ps_seedOf 5 = .ok (.getfield 111, 3) := by decide +kernel
theorem d_ps_seedOf_8 : decode b_ps_seedOf 8 = .ok (.ireturn, 1) := by decide +kernel
theorem d_ps_bit_0 : decode b_ps_bit 0 = .ok (.aload_n 0, 1) := by decide +kernel
theorem d_ps_bit_1 : decode b_ps_bit 1 = .ok (.iload_n 1, 1) := by decide +kernel
theorem d_ps_bit_2 : decode b_ps_bit 2 = .ok (.invokevirtual 48, 3) := by decide +kernel
theorem d_ps_bit_5 : decode b_ps_bit 5 = .ok (.astore 4, 2) := by decide +kernel
theorem d_ps_bit_7 : decode b_ps_bit 7 = .ok (.aload_n 0, 1) := by decide +kernel
theorem d_ps_bit_8 : decode b_ps_bit 8 = .ok (.iload_n 2, 1) := by decide +kernel
theorem d_ps_bit_9 : decode b_ps_bit 9 = .ok (.iload_n 3, 1) := by decide +kernel
theorem d_ps_bit_10 : decode b_ps_bit 10 = .ok (.invokevirtual 52, 3) := by decide +kernel
theorem d_ps_bit_13 : decode b_ps_bit 13 = .ok (.istore 5, 2) := by decide +kernel
theorem d_ps_bit_15 : decode b_ps_bit 15 = .ok (.aload_n 0, 1) := by decide +kernel
theorem d_ps_bit_16 : decode b_ps_bit 16 = .ok (.aload 4, 2) := by decide +kernel
theorem d_ps_bit_18 : decode b_ps_bit 18 = .ok (.invokevirtual 114, 3) := by decide +kernel
theorem d_ps_bit_21 : decode b_ps_bit 21 = .ok (.iload 5, 2) := by decide +kernel
theorem d_ps_bit_23 : decode b_ps_bit 23 = .ok (.iand, 1) := by decide +kernel
theorem d_ps_bit_24 : decode b_ps_bit 24 = .ok (.ifCond .eq 7, 3) := by decide +kernel
theorem d_ps_bit_27 : decode b_ps_bit 27 = .ok (.iconst 1, 1) := by decide +kernel
theorem d_ps_bit_28 : decode b_ps_bit 28 = .ok (.goto 4, 3) := by decide +kernel
theorem d_ps_bit_31 : decode b_ps_bit 31 = .ok (.iconst 0, 1) := by decide +kernel
theorem d_ps_bit_32 : decode b_ps_bit 32 = .ok (.ireturn, 1) := by decide +kernel
theorem d_ps_found_0 : decode b_ps_found 0 = .ok (.aload_n 0, 1) := by decide +kernel
theorem d_ps_found_1 : decode b_ps_found 1 = .ok (.iload_n 1, 1) := by decide +kernel
theorem d_ps_found_2 : decode b_ps_found 2 = .ok (.invokevirtual 48, 3) := by decide +kernel
theorem d_ps_found_5 : decode b_ps_found 5 = .ok (.astore_n 3, 1) := by decide +kernel
theorem d_ps_found_6 : decode b_ps_found 6 = .ok (.iload_n 2, 1) := by decide +kernel
theorem d_ps_found_7 : decode b_ps_found 7 = .ok (.invokestatic 118, 3) := by decide +kernel
theorem d_ps_found_10 : decode b_ps_found 10 = .ok (.istore 4, 2) := by decide +kernel
theorem d_ps_found_12 : decode b_ps_found 12 = .ok (.aload_n 3, 1) := by decide +kernel
theorem d_ps_found_13 : decode b_ps_found 13 = .ok (.getfield 122, 3) := by decide +kernel
theorem d_ps_found_16 : decode b_ps_found 16 = .ok (.iload 4, 2) := by decide +kernel
theorem d_ps_found_18 : decode b_ps_found 18 = .ok (.iand, 1) := by decide +kernel
theorem d_ps_found_19 : decode b_ps_found 19 = .ok (.ifCond .ne 7, 3) := by decide +kernel
theorem d_ps_found_22 : decode b_ps_found 22 = .ok (.iconst 1, 1) := by decide +kernel
theorem d_ps_found_23 : decode b_ps_found 23 = .ok (.goto 4, 3) := by decide +kernel
theorem d_ps_found_26 : decode b_ps_found 26 = .ok (.iconst 0, 1) := by decide +kernel
theorem d_ps_found_27 : decode b_ps_found 27 = .ok (.istore 5, 2) := by decide +kernel
theorem d_ps_found_29 : decode b_ps_found 29 = .ok (.aload_n 3, 1) := by decide +kernel
theorem d_ps_found_30 : decode b_ps_found 30 = .ok (.dup, 1) := by decide +kernel
theorem d_ps_found_31 : decode b_ps_found 31 = .ok (.getfield 122, 3) := by decide +kernel
theorem d_ps_found_34 : decode b_ps_found 34 = .ok (.iload 4, 2) := by decide +kernel
theorem d_ps_found_36 : decode b_ps_found 36 = .ok (.ior, 1) := by decide +kernel
theorem d_ps_found_37 : decode b_ps_found 37 = .ok (.putfield 122, 3) := by decide +kernel
theorem d_ps_found_40 : decode b_ps_found 40 = .ok (.iload 5, 2) := by decide +kernel
theorem d_ps_found_42 : decode b_ps_found 42 = .ok (.ireturn, 1) := by decide +kernel
theorem d_ps_drop_0 : decode b_ps_drop 0 = .ok (.aload_n 0, 1) := by decide +kernel
theorem d_ps_drop_1 : decode b_ps_drop 1 = .ok (.getfield 29, 3) := by decide +kernel
theorem d_ps_drop_4 : decode b_ps_drop 4 = .ok (.arraylength, 1) := by decide +kernel
theorem d_ps_drop_5 : decode b_ps_drop 5 = .ok (.iconst 1, 1) := by decide +kernel
theorem d_ps_drop_6 : decode b_ps_drop 6 = .ok (.isub, 1) := by decide +kernel
theorem d_ps_drop_7 : decode b_ps_drop 7 = .ok (.istore_n 1, 1) := by decide +kernel
theorem d_ps_drop_8 : decode b_ps_drop 8 = .ok (.iload_n 1, 1) := by decide +kernel
theorem d_ps_drop_9 : decode b_ps_drop 9 = .ok (.ifCond .lt 39, 3) := by decide +kernel
theorem d_ps_drop_12 : decode b_ps_drop 12 = .ok (.aload_n 0, 1) := by decide +kernel
theorem d_ps_drop_13 : decode b_ps_drop 13 = .ok (.iload_n 1, 1) := by decide +kernel
theorem d_ps_drop_14 : decode b_ps_drop 14 = .ok (.invokevirtual 65, 3) := by decide +kernel
theorem d_ps_drop_17 : decode b_ps_drop 17 = .ok (.astore_n 2, 1) := by decide +kernel
theorem d_ps_drop_18 : decode b_ps_drop 18 = .ok (.aload_n 2, 1) := by decide +kernel
theorem d_ps_drop_19 : decode b_ps_drop 19 = .ok (.ifnull 23, 3) := by decide +kernel
theorem d_ps_drop_22 : decode b_ps_drop 22 = .ok (.aload_n 2, 1) := by decide +kernel
theorem d_ps_drop_23 : decode b_ps_drop 23 = .ok (.getfield 122, 3) := by decide +kernel
theorem d_ps_drop_26 : decode b_ps_drop 26 = .ok (.aload_n 0, 1) := by decide +kernel
theorem d_ps_drop_27 : decode b_ps_drop 27 = .ok (.iload_n 1, 1) := by decide +kernel
theorem d_ps_drop_28 : decode b_ps_drop 28 = .ok (.invokevirtual 125, 3) := by decide +kernel
theorem d_ps_drop_31 : decode b_ps_drop 31 = .ok (.iconst (-1), 1) := by decide +kernel
theorem d_ps_drop_32 : decode b_ps_drop 32 = .ok (.ixor, 1) := by decide +kernel
theorem d_ps_drop_33 : decode b_ps_drop 33 = .ok (.iand, 1) := by decide +kernel
theorem d_ps_drop_34 : decode b_ps_drop 34 = .ok (.ifCond .ne 8, 3) := by decide +kernel
theorem d_ps_drop_37 : decode b_ps_drop 37 = .ok (.aload_n 2, 1) := by decide +kernel
theorem d_ps_drop_38 : decode b_ps_drop 38 = .ok (.iconst 1, 1) := by decide +kernel
theorem d_ps_drop_39 : decode b_ps_drop 39 = .ok (.putfield 128, 3) := by decide +kernel
theorem d_ps_drop_42 : decode b_ps_drop 42 = .ok (.iinc 1 (-1), 3) := by decide +kernel
theorem d_ps_drop_45 : decode b_ps_drop 45 = .ok (.goto (-37), 3) := by decide +kernel
theorem d_ps_drop_48 : decode b_ps_drop 48 = .ok (.aload_n 0, 1) := by decide +kernel
theorem d_ps_drop_49 : decode b_ps_drop 49 = .ok (.invokevirtual 72, 3) := by decide +kernel
theorem d_ps_drop_52 : decode b_ps_drop 52 = .ok (.ireturn, 1) := by decide +kernel
theorem d_ps_finders_0 : decode b_ps_finders 0 = .ok (.iload_n 1, 1) := by decide +kernel
theorem d_ps_finders_1 : decode b_ps_finders 1 = .ok (.invokestatic 118, 3) := by decide +kernel
theorem d_ps_finders_4 : decode b_ps_finders 4 = .ok (.istore_n 2, 1) := by decide +kernel
theorem d_ps_finders_5 : decode b_ps_finders 5 = .ok (.iconst 0, 1) := by decide +kernel
theorem d_ps_finders_6 : decode b_ps_finders 6 = .ok (.istore_n 3, 1) := by decide +kernel
theorem d_ps_finders_7 : decode b_ps_finders 7 = .ok (.iconst 0, 1) := by decide +kernel
theorem d_ps_finders_8 : decode b_ps_finders 8 = .ok (.istore 4, 2) := by decide +kernel
theorem d_ps_finders_10 : decode b_ps_finders 10 = .ok (.iload 4, 2) := by decide +kernel
theorem d_ps_finders_12 : decode b_ps_finders 12 = .ok (.aload_n 0, 1) := by decide +kernel
theorem d_ps_finders_13 : decode b_ps_finders 13 = .ok (.getfield 29, 3) := by decide +kernel
theorem d_ps_finders_16 : decode b_ps_finders 16 = .ok (.arraylength, 1) := by decide +kernel
theorem d_ps_finders_17 : decode b_ps_finders 17 = .ok (.if_icmp .ge 35, 3) := by decide +kernel
theorem d_ps_finders_20 : decode b_ps_finders 20 = .ok (.aload_n 0, 1) := by decide +kernel
theorem d_ps_finders_21 : decode b_ps_finders 21 = .ok (.iload 4, 2) := by decide +kernel
theorem d_ps_finders_23 : decode b_ps_finders 23 = .ok (.invokevirtual 65, 3) := by decide +kernel
theorem d_ps_finders_26 : decode b_ps_finders 26 = .ok (.astore 5, 2) := by decide +kernel
theorem d_ps_finders_28 : decode b_ps_finders 28 = .ok (.aload 5, 2) := by decide +kernel
theorem d_ps_finders_30 : decode b_ps_finders 30 = .ok (.ifnull 16, 3) := by decide +kernel
theorem d_ps_finders_33 : decode b_ps_finders 33 = .ok (.aload 5, 2) := by decide +kernel
theorem d_ps_finders_35 : decode b_ps_finders 35 = .ok (.getfield 122, 3) := by decide +kernel
theorem d_ps_finders_38 : decode b_ps_finders 38 = .ok (.iload_n 2, 1) := by decide +kernel
theorem d_ps_finders_39 : decode b_ps_finders 39 = .ok (.iand, 1) := by decide +kernel
theorem d_ps_finders_40 : decode b_ps_finders 40 = .ok (.ifCond .eq 6, 3) := by decide +kernel
theorem d_ps_finders_43 : decode b_ps_finders 43 = .ok (.iinc 3 1, 3) := by decide +kernel
theorem d_ps_finders_46 : decode b_ps_finders 46 = .ok (.iinc 4 1, 3) := by decide +kernel
theorem d_ps_finders_49 : decode b_ps_finders 49 = .ok (.goto (-39), 3) := by decide +kernel
theorem d_ps_finders_52 : decode b_ps_finders 52 = .ok (.iload_n 3, 1) := by decide +kernel
theorem d_ps_finders_53 : decode b_ps_finders 53 = .ok (.ireturn, 1) := by decide +kernel
theorem d_ps_mask_0 : decode b_ps_mask 0 = .ok (.aload_n 0, 1) := by decide +kernel
theorem d_ps_mask_1 : decode b_ps_mask 1 = .ok (.iload_n 1, 1) := by decide +kernel
theorem d_ps_mask_2 : decode b_ps_mask 2 = .ok (.invokevirtual 48, 3) := by decide +kernel
theorem d_ps_mask_5 : decode b_ps_mask 5 = .ok (.astore 4, 2) := by decide +kernel
theorem d_ps_mask_7 : decode b_ps_mask 7 = .ok (.aload_n 0, 1) := by decide +kernel
theorem d_ps_mask_8 : decode b_ps_mask 8 = .ok (.iload_n 2, 1) := by decide +kernel
theorem d_ps_mask_9 : decode b_ps_mask 9 = .ok (.iload_n 3, 1) := by decide +kernel
theorem d_ps_mask_10 : decode b_ps_mask 10 = .ok (.invokevirtual 52, 3) := by decide +kernel
theorem d_ps_mask_13 : decode b_ps_mask 13 = .ok (.istore 5, 2) := by decide +kernel
theorem d_ps_mask_15 : decode b_ps_mask 15 = .ok (.aload 4, 2) := by decide +kernel
theorem d_ps_mask_17 : decode b_ps_mask 17 = .ok (.getfield 132, 3) := by decide +kernel
theorem d_ps_mask_20 : decode b_ps_mask 20 = .ok (.iload 5, 2) := by decide +kernel
theorem d_ps_mask_22 : decode b_ps_mask 22 = .ok (.iand, 1) := by decide +kernel
theorem d_ps_mask_23 : decode b_ps_mask 23 = .ok (.ifCond .ne 7, 3) := by decide +kernel
theorem d_ps_mask_26 : decode b_ps_mask 26 = .ok (.iconst 1, 1) := by decide +kernel
theorem d_ps_mask_27 : decode b_ps_mask 27 = .ok (.goto 4, 3) := by decide +kernel
theorem d_ps_mask_30 : decode b_ps_mask 30 = .ok (.iconst 0, 1) := by decide +kernel
theorem d_ps_mask_31 : decode b_ps_mask 31 = .ok (.istore 6, 2) := by decide +kernel
theorem d_ps_mask_33 : decode b_ps_mask 33 = .ok (.aload 4, 2) := by decide +kernel
theorem d_ps_mask_35 : decode b_ps_mask 35 = .ok (.dup, 1) := by decide +kernel
theorem d_ps_mask_36 : decode b_ps_mask 36 = .ok (.getfield 132, 3) := by decide +kernel
theorem d_ps_mask_39 : decode b_ps_mask 39 = .ok (.iload 5, 2) := by decide +kernel
theorem d_ps_mask_41 : decode b_ps_mask 41 = .ok (.ior, 1) := by decide +kernel
theorem d_ps_mask_42 : decode b_ps_mask 42 = .ok (.putfield 132, 3) := by decide +kernel
theorem d_ps_mask_45 : decode b_ps_mask 45 = .ok (.iload 6, 2) := by decide +kernel
theorem d_ps_mask_47 : decode b_ps_mask 47 = .ok (.ireturn, 1) := by decide +kernel
theorem d_ps_signature_0 : decode b_ps_signature 0 = .ok (.iload_n 1, 1) := by decide +kernel
theorem d_ps_signature_1 : decode b_ps_signature 1 = .ok (.ifCond .lt 8, 3) := by decide +kernel
theorem d_ps_signature_4 : decode b_ps_signature 4 = .ok (.iload_n 2, 1) := by decide +kernel
theorem d_ps_signature_5 : decode b_ps_signature 5 = .ok (.iload_n 1, 1) := by decide +kernel
theorem d_ps_signature_6 : decode b_ps_signature 6 = .ok (.if_icmp .ge 13, 3) := by decide +kernel
theorem d_ps_signature_9 : decode b_ps_signature 9 = .ok (.new 56, 3) := by decide +kernel
theorem d_ps_signature_12 : decode b_ps_signature 12 = .ok (.dup, 1) := by decide +kernel
theorem d_ps_signature_13 : decode b_ps_signature 13 = .ok (.ldc 135, 2) := by decide +kernel
theorem d_ps_signature_15 : decode b_ps_signature 15 = .ok (.invokespecial 60, 3) := by decide +kernel
theorem d_ps_signature_18 : decode b_ps_signature 18 = .ok (.athrow, 1) := by decide +kernel
theorem d_ps_signature_19 : decode b_ps_signature 19 = .ok (.iload_n 2, 1) := by decide +kernel
theorem d_ps_signature_20 : decode b_ps_signature 20 = .ok (.aload_n 0, 1) := by decide +kernel
theorem d_ps_signature_21 : decode b_ps_signature 21 = .ok (.getfield 29, 3) := by decide +kernel
theorem d_ps_signature_24 : decode b_ps_signature 24 = .ok (.arraylength, 1) := by decide +kernel
theorem d_ps_signature_25 : decode b_ps_signature 25 = .ok (.iconst 1, 1) := by decide +kernel
theorem d_ps_signature_26 : decode b_ps_signature 26 = .ok (.isub, 1) := by decide +kernel
theorem d_ps_signature_27 : decode b_ps_signature 27 = .ok (.invokestatic 137, 3) := by decide +kernel
theorem d_ps_signature_30 : decode b_ps_signature 30 = .ok (.istore_n 3, 1) := by decide +kernel
theorem d_ps_signature_31 : decode b_ps_signature 31 = .ok (.iconst 0, 1) := by decide +kernel
theorem d_ps_signature_32 : decode b_ps_signature 32 = .ok (.istore 4, 2) := by decide +kernel
theorem d_ps_signature_34 : decode b_ps_signature 34 = .ok (.iload_n 1, 1) := by decide +kernel
theorem d_ps_signature_35 : decode b_ps_signature 35 = .ok (.istore 5, 2) := by decide +kernel
theorem d_ps_signature_37 : decode b_ps_signature 37 = .ok (.iload 5, 2) := by decide +kernel
theorem d_ps_signature_39 : decode b_ps_signature 39 = .ok (.iload_n 3, 1) := by decide +kernel
theorem d_ps_signature_40 : decode b_ps_signature 40 = .ok (.if_icmp .gt 47, 3) := by decide +kernel
theorem d_ps_signature_43 : decode b_ps_signature 43 = .ok (.aload_n 0, 1) := by decide +kernel
theorem d_ps_signature_44 : decode b_ps_signature 44 = .ok (.iload 5, 2) := by decide +kernel
theorem d_ps_signature_46 : decode b_ps_signature 46 = .ok (.invokevirtual 65, 3) := by decide +kernel
theorem d_ps_signature_49 : decode b_ps_signature 49 = .ok (.astore 6, 2) := by decide +kernel
theorem d_ps_signature_51 : decode b_ps_signature 51 = .ok (.aload 6, 2) := by decide +kernel
theorem d_ps_signature_53 : decode b_ps_signature 53 = .ok (.ifnull 28, 3) := by decide +kernel
theorem d_ps_signature_56 : decode b_ps_signature 56 = .ok (.aload_n 0, 1) := by decide +kernel
theorem d_ps_signature_57 : decode b_ps_signature 57 = .ok (.getfield 23, 3) := by decide +kernel
theorem d_ps_signature_60 : decode b_ps_signature 60 = .ok (.iload 4, 2) := by decide +kernel
theorem d_ps_signature_62 : decode b_ps_signature 62 = .ok (.aload_n 0, 1) := by decide +kernel
theorem d_ps_signature_63 : decode b_ps_signature 63 = .ok (.aload 6, 2) := by decide +kernel
theorem d_ps_signature_65 : decode b_ps_signature 65 = .ok (.invokevirtual 114, 3) := by decide +kernel
theorem d_ps_signature_68 : decode b_ps_signature 68 = .ok (.aload 6, 2) := by decide +kernel
theorem d_ps_signature_70 : decode b_ps_signature 70 = .ok (.getfield 132, 3) := by decide +kernel
theorem d_ps_signature_73 : decode b_ps_signature 73 = .ok (.iconst (-1), 1) := by decide +kernel
theorem d_ps_signature_74 : decode b_ps_signature 74 = .ok (.ixor, 1) := by decide +kernel
theorem d_ps_signature_75 : decode b_ps_signature 75 = .ok (.iand, 1) := by decide +kernel
theorem d_ps_signature_76 : decode b_ps_signature 76 = .ok (.invokevirtual 142, 3) := by decide +kernel
theorem d_ps_signature_79 : decode b_ps_signature 79 = .ok (.istore 4, 2) := by decide +kernel
theorem d_ps_signature_81 : decode b_ps_signature 81 = .ok (.iinc 5 1, 3) := by decide +kernel
theorem d_ps_signature_84 : decode b_ps_signature 84 = .ok (.goto (-47), 3) := by decide +kernel
theorem d_ps_signature_87 : decode b_ps_signature 87 = .ok (.iload 4, 2) := by decide +kernel
theorem d_ps_signature_89 : decode b_ps_signature 89 = .ok (.i2l, 1) := by decide +kernel
theorem d_ps_signature_90 : decode b_ps_signature 90 = .ok (.lreturn, 1) := by decide +kernel
theorem d_ps_primitive_0 : decode b_ps_primitive 0 = .ok (.aload_n 0, 1) := by decide +kernel
theorem d_ps_primitive_1 : decode b_ps_primitive 1 = .ok (.getfield 23, 3) := by decide +kernel
theorem d_ps_primitive_4 : decode b_ps_primitive 4 = .ok (.invokevirtual 145, 3) := by decide +kernel
theorem d_ps_primitive_7 : decode b_ps_primitive 7 = .ok (.ireturn, 1) := by decide +kernel
theorem d_ps_alias_0 : decode b_ps_alias 0 = .ok (.iload_n 1, 1) := by decide +kernel
theorem d_ps_alias_1 : decode b_ps_alias 1 = .ok (.iconst 1, 1) := by decide +kernel
theorem d_ps_alias_2 : decode b_ps_alias 2 = .ok (.if_icmp .lt 9, 3) := by decide +kernel
theorem d_ps_alias_5 : decode b_ps_alias 5 = .ok (.iload_n 1, 1) := by decide +kernel
theorem d_ps_alias_6 : decode b_ps_alias 6 = .ok (.bipush 60, 2) := by decide +kernel
theorem d_ps_alias_8 : decode b_ps_alias 8 = .ok (.if_icmp .le 13, 3) := by decide +kernel
theorem d_ps_alias_11 : decode b_ps_alias 11 = .ok (.new 56, 3) := by decide +kernel
theorem d_ps_alias_14 : decode b_ps_alias 14 = .ok (.dup, 1) := by decide +kernel
theorem d_ps_alias_15 : decode b_ps_alias 15 = .ok (.ldc 149, 2) := by decide +kernel
theorem d_ps_alias_17 : decode b_ps_alias 17 = .ok (.invokespecial 60, 3) := by decide +kernel
theorem d_ps_alias_20 : decode b_ps_alias 20 = .ok (.athrow, 1) := by decide +kernel
theorem d_ps_alias_21 : decode b_ps_alias 21 = .ok (.iload_n 2, 1) := by decide +kernel
theorem d_ps_alias_22 : decode b_ps_alias 22 = .ok (.ifCond .eq 18, 3) := by decide +kernel
theorem d_ps_alias_25 : decode b_ps_alias 25 = .ok (.iload_n 2, 1) := by decide +kernel
theorem d_ps_alias_26 : decode b_ps_alias 26 = .ok (.iconst 1, 1) := by decide +kernel
theorem d_ps_alias_27 : decode b_ps_alias 27 = .ok (.if_icmp .eq 13, 3) := by decide +kernel
theorem d_ps_alias_30 : decode b_ps_alias 30 = .ok (.new 56, 3) := by decide +kernel
theorem d_ps_alias_33 : decode b_ps_alias 33 = .ok (.dup, 1) := by decide +kernel
theorem d_ps_alias_34 : decode b_ps_alias 34 = .ok (.ldc 151, 2) := by decide +kernel
theorem d_ps_alias_36 : decode b_ps_alias 36 = .ok (.invokespecial 60, 3) := by decide +kernel
theorem d_ps_alias_39 : decode b_ps_alias 39 = .ok (.athrow, 1) := by decide +kernel
theorem d_ps_alias_40 : decode b_ps_alias 40 = .ok (.iconst 0, 1) := by decide +kernel
theorem d_ps_alias_41 : decode b_ps_alias 41 = .ok (.iload_n 1, 1) := by decide +kernel
theorem d_ps_alias_42 : decode b_ps_alias 42 = .ok (.aload_n 0, 1) := by decide +kernel
theorem d_ps_alias_43 : decode b_ps_alias 43 = .ok (.getfield 23, 3) := by decide +kernel
theorem d_ps_alias_46 : decode b_ps_alias 46 = .ok (.getfield 85, 3) := by decide +kernel
theorem d_ps_alias_49 : decode b_ps_alias 49 = .ok (.isub, 1) := by decide +kernel
theorem d_ps_alias_50 : decode b_ps_alias 50 = .ok (.invokestatic 153, 3) := by decide +kernel
theorem d_ps_alias_53 : decode b_ps_alias 53 = .ok (.istore_n 3, 1) := by decide +kernel
theorem d_ps_alias_54 : decode b_ps_alias 54 = .ok (.lconst 1, 1) := by decide +kernel
theorem d_ps_alias_55 : decode b_ps_alias 55 = .ok (.iload_n 3, 1) := by decide +kernel
theorem d_ps_alias_56 : decode b_ps_alias 56 = .ok (.lshl, 1) := by decide +kernel
theorem d_ps_alias_57 : decode b_ps_alias 57 = .ok (.lconst 1, 1) := by decide +kernel
theorem d_ps_alias_58 : decode b_ps_alias 58 = .ok (.lsub, 1) := by decide +kernel
theorem d_ps_alias_59 : decode b_ps_alias 59 = .ok (.lstore 4, 2) := by decide +kernel
theorem d_ps_alias_61 : decode b_ps_alias 61 = .ok (.lconst 1, 1) := by decide +kernel
theorem d_ps_alias_62 : decode b_ps_alias 62 = .ok (.iload_n 1, 1) := by decide +kernel
theorem d_ps_alias_63 : decode b_ps_alias 63 = .ok (.lshl, 1) := by decide +kernel
theorem d_ps_alias_64 : decode b_ps_alias 64 = .ok (.lconst 1, 1) := by decide +kernel
theorem d_ps_alias_65 : decode b_ps_alias 65 = .ok (.lsub, 1) := by decide +kernel
theorem d_ps_alias_66 : decode b_ps_alias 66 = .ok (.lstore 6, 2) := by decide +kernel
theorem d_ps_alias_68 : decode b_ps_alias 68 = .ok (.iload_n 2, 1) := by decide +kernel
theorem d_ps_alias_69 : decode b_ps_alias 69 = .ok (.ifCond .ne 8, 3) := by decide +kernel
theorem d_ps_alias_72 : decode b_ps_alias 72 = .ok (.lload 4, 2) := by decide +kernel
theorem d_ps_alias_74 : decode b_ps_alias 74 = .ok (.goto 5, 3) := by decide +kernel
theorem d_ps_alias_77 : decode b_ps_alias 77 = .ok (.lload 6, 2) := by decide +kernel
theorem d_ps_alias_79 : decode b_ps_alias 79 = .ok (.lload 6, 2) := by decide +kernel
theorem d_ps_alias_81 : decode b_ps_alias 81 = .ok (.lload 4, 2) := by decide +kernel
theorem d_ps_alias_83 : decode b_ps_alias 83 = .ok (.invokestatic 156, 3) := by decide +kernel
theorem d_ps_alias_86 : decode b_ps_alias 86 = .ok (.ldiv, 1) := by decide +kernel
theorem d_ps_alias_87 : decode b_ps_alias 87 = .ok (.lreturn, 1) := by decide +kernel
theorem d_ps_fill_0 : decode b_ps_fill 0 = .ok (.iload_n 1, 1) := by decide +kernel
theorem d_ps_fill_1 : decode b_ps_fill 1 = .ok (.ifCond .lt 8, 3) := by decide +kernel
theorem d_ps_fill_4 : decode b_ps_fill 4 = .ok (.iload_n 1, 1) := by decide +kernel
theorem d_ps_fill_5 : decode b_ps_fill 5 = .ok (.iconst 2, 1) := by decide +kernel
theorem d_ps_fill_6 : decode b_ps_fill 6 = .ok (.if_icmp .le 13, 3) := by decide +kernel
theorem d_ps_fill_9 : decode b_ps_fill 9 = .ok (.new 56, 3) := by decide +kernel
theorem d_ps_fill_12 : decode b_ps_fill 12 = .ok (.dup, 1) := by decide +kernel
theorem d_ps_fill_13 : decode b_ps_fill 13 = .ok (.ldc 160, 2) := by decide +kernel
theorem d_ps_fill_15 : decode b_ps_fill 15 = .ok (.invokespecial 60, 3) := by decide +kernel
theorem d_ps_fill_18 : decode b_ps_fill 18 = .ok (.athrow, 1) := by decide +kernel
theorem d_ps_fill_19 : decode b_ps_fill 19 = .ok (.iload_n 1, 1) := by decide +kernel
theorem d_ps_fill_20 : decode b_ps_fill 20 = .ok (.aload_n 0, 1) := by decide +kernel
theorem d_ps_fill_21 : decode b_ps_fill 21 = .ok (.getfield 37, 3) := by decide +kernel
theorem d_ps_fill_24 : decode b_ps_fill 24 = .ok (.if_icmp .eq 7, 3) := by decide +kernel
theorem d_ps_fill_27 : decode b_ps_fill 27 = .ok (.iconst 1, 1) := by decide +kernel
theorem d_ps_fill_28 : decode b_ps_fill 28 = .ok (.goto 4, 3) := by decide +kernel
theorem d_ps_fill_31 : decode b_ps_fill 31 = .ok (.iconst 0, 1) := by decide +kernel
theorem d_ps_fill_32 : decode b_ps_fill 32 = .ok (.istore_n 2, 1) := by decide +kernel
theorem d_ps_fill_33 : decode b_ps_fill 33 = .ok (.aload_n 0, 1) := by decide +kernel
theorem d_ps_fill_34 : decode b_ps_fill 34 = .ok (.iload_n 1, 1) := by decide +kernel
theorem d_ps_fill_35 : decode b_ps_fill 35 = .ok (.putfield 37, 3) := by decide +kernel
theorem d_ps_fill_38 : decode b_ps_fill 38 = .ok (.iload_n 2, 1) := by decide +kernel
theorem d_ps_fill_39 : decode b_ps_fill 39 = .ok (.ireturn, 1) := by decide +kernel
theorem d_ps_shifts_0 : decode b_ps_shifts 0 = .ok (.aload_n 0, 1) := by decide +kernel
theorem d_ps_shifts_1 : decode b_ps_shifts 1 = .ok (.aload_n 0, 1) := by decide +kernel
theorem d_ps_shifts_2 : decode b_ps_shifts 2 = .ok (.iload_n 1, 1) := by decide +kernel
theorem d_ps_shifts_3 : decode b_ps_shifts 3 = .ok (.invokevirtual 48, 3) := by decide +kernel
theorem d_ps_shifts_6 : decode b_ps_shifts 6 = .ok (.invokevirtual 114, 3) := by decide +kernel
theorem d_ps_shifts_9 : decode b_ps_shifts 9 = .ok (.istore_n 2, 1) := by decide +kernel
theorem d_ps_shifts_10 : decode b_ps_shifts 10 = .ok (.lconst 0, 1) := by decide +kernel
theorem d_ps_shifts_11 : decode b_ps_shifts 11 = .ok (.lstore_n 3, 1) := by decide +kernel
theorem d_ps_shifts_12 : decode b_ps_shifts 12 = .ok (.iconst 0, 1) := by decide +kernel
theorem d_ps_shifts_13 : decode b_ps_shifts 13 = .ok (.istore 5, 2) := by decide +kernel
theorem d_ps_shifts_15 : decode b_ps_shifts 15 = .ok (.iload 5, 2) := by decide +kernel
theorem d_ps_shifts_17 : decode b_ps_shifts 17 = .ok (.aload_n 0, 1) := by decide +kernel
theorem d_ps_shifts_18 : decode b_ps_shifts 18 = .ok (.getfield 12, 3) := by decide +kernel
theorem d_ps_shifts_21 : decode b_ps_shifts 21 = .ok (.getfield 162, 3) := by decide +kernel
theorem d_ps_shifts_24 : decode b_ps_shifts 24 = .ok (.if_icmp .ge 87, 3) := by decide +kernel
theorem d_ps_shifts_27 : decode b_ps_shifts 27 = .ok (.iconst 0, 1) := by decide +kernel
theorem d_ps_shifts_28 : decode b_ps_shifts 28 = .ok (.istore 6, 2) := by decide +kernel
theorem d_ps_shifts_30 : decode b_ps_shifts 30 = .ok (.iload 6, 2) := by decide +kernel
theorem d_ps_shifts_32 : decode b_ps_shifts 32 = .ok (.iconst 1, 1) := by decide +kernel
theorem d_ps_shifts_33 : decode b_ps_shifts 33 = .ok (.iadd, 1) := by decide +kernel
theorem d_ps_shifts_34 : decode b_ps_shifts 34 = .ok (.aload_n 0, 1) := by decide +kernel
theorem d_ps_shifts_35 : decode b_ps_shifts 35 = .ok (.getfield 12, 3) := by decide +kernel
theorem d_ps_shifts_38 : decode b_ps_shifts 38 = .ok (.getfield 165, 3) := by decide +kernel
theorem d_ps_shifts_41 : decode b_ps_shifts 41 = .ok (.if_icmp .ge 64, 3) := by decide +kernel
theorem d_ps_shifts_44 : decode b_ps_shifts 44 = .ok (.iload_n 2, 1) := by decide +kernel
theorem d_ps_shifts_45 : decode b_ps_shifts 45 = .ok (.iload 5, 2) := by decide +kernel
theorem d_ps_shifts_47 : decode b_ps_shifts 47 = .ok (.iload 6, 2) := by decide +kernel
theorem d_ps_shifts_49 : decode b_ps_shifts 49 = .ok (.invokestatic 168, 3) := by decide +kernel
theorem d_ps_shifts_52 : decode b_ps_shifts 52 = .ok (.iand, 1) := by decide +kernel
theorem d_ps_shifts_53 : decode b_ps_shifts 53 = .ok (.ifCond .eq 7, 3) := by decide +kernel
theorem d_ps_shifts_56 : decode b_ps_shifts 56 = .ok (.iconst 1, 1) := by decide +kernel
theorem d_ps_shifts_57 : decode b_ps_shifts 57 = .ok (.goto 4, 3) := by decide +kernel
theorem d_ps_shifts_60 : decode b_ps_shifts 60 = .ok (.iconst 0, 1) := by decide +kernel
theorem d_ps_shifts_61 : decode b_ps_shifts 61 = .ok (.istore 7, 2) := by decide +kernel
theorem d_ps_shifts_63 : decode b_ps_shifts 63 = .ok (.iload_n 2, 1) := by decide +kernel
theorem d_ps_shifts_64 : decode b_ps_shifts 64 = .ok (.iload 5, 2) := by decide +kernel
theorem d_ps_shifts_66 : decode b_ps_shifts 66 = .ok (.iload 6, 2) := by decide +kernel
theorem d_ps_shifts_68 : decode b_ps_shifts 68 = .ok (.iconst 1, 1) := by decide +kernel
theorem d_ps_shifts_69 : decode b_ps_shifts 69 = .ok (.iadd, 1) := by decide +kernel
theorem d_ps_shifts_70 : decode b_ps_shifts 70 = .ok (.invokestatic 168, 3) := by decide +kernel
theorem d_ps_shifts_73 : decode b_ps_shifts 73 = .ok (.iand, 1) := by decide +kernel
theorem d_ps_shifts_74 : decode b_ps_shifts 74 = .ok (.ifCond .eq 7, 3) := by decide +kernel
theorem d_ps_shifts_77 : decode b_ps_shifts 77 = .ok (.iconst 1, 1) := by decide +kernel
theorem d_ps_shifts_78 : decode b_ps_shifts 78 = .ok (.goto 4, 3) := by decide +kernel
theorem d_ps_shifts_81 : decode b_ps_shifts 81 = .ok (.iconst 0, 1) := by decide +kernel
theorem d_ps_shifts_82 : decode b_ps_shifts 82 = .ok (.istore 8, 2) := by decide +kernel
theorem d_ps_shifts_84 : decode b_ps_shifts 84 = .ok (.iload 7, 2) := by decide +kernel
theorem d_ps_shifts_86 : decode b_ps_shifts 86 = .ok (.iload 8, 2) := by decide +kernel
theorem d_ps_shifts_88 : decode b_ps_shifts 88 = .ok (.if_icmp .eq 11, 3) := by decide +kernel
theorem d_ps_shifts_91 : decode b_ps_shifts 91 = .ok (.lload_n 3, 1) := by decide +kernel
theorem d_ps_shifts_92 : decode b_ps_shifts 92 = .ok (.iload 6, 2) := by decide +kernel
theorem d_ps_shifts_94 : decode b_ps_shifts 94 = .ok (.iconst 1, 1) := by decide +kernel
theorem d_ps_shifts_95 : decode b_ps_shifts 95 = .ok (.iadd, 1) := by decide +kernel
theorem d_ps_shifts_96 : decode b_ps_shifts 96 = .ok (.i2l, 1) := by decide +kernel
theorem d_ps_shifts_97 : decode b_ps_shifts 97 = .ok (.ladd, 1) := by decide +kernel
theorem d_ps_shifts_98 : decode b_ps_shifts 98 = .ok (.lstore_n 3, 1) := by decide +kernel
theorem d_ps_shifts_99 : decode b_ps_shifts 99 = .ok (.iinc 6 1, 3) := by decide +kernel
theorem d_ps_shifts_102 : decode b_ps_shifts 102 = .ok (.goto (-72), 3) := by decide +kernel
theorem d_ps_shifts_105 : decode b_ps_shifts 105 = .ok (.iinc 5 1, 3) := by decide +kernel
theorem d_ps_shifts_108 : decode b_ps_shifts 108 = .ok (.goto (-93), 3) := by decide +kernel
theorem d_ps_shifts_111 : decode b_ps_shifts 111 = .ok (.lload_n 3, 1) := by decide +kernel
theorem d_ps_shifts_112 : decode b_ps_shifts 112 = .ok (.lreturn, 1) := by decide +kernel
