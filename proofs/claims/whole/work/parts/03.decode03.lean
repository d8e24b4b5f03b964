theorem d_mo_drop_0 : decode b_mo_drop 0 = .ok (.aload_n 0, 1) := by decide +kernel
theorem d_mo_drop_1 : decode b_mo_drop 1 = .ok (.iconst 0, 1) := by decide +kernel
theorem d_mo_drop_2 : decode b_mo_drop 2 = .ok (.putfield 42, 3) := by decide +kernel
theorem d_mo_drop_5 : decode b_mo_drop 5 = .ok (.aload_n 0, 1) := by decide +kernel
theorem d_mo_drop_6 : decode b_mo_drop 6 = .ok (.getfield 45, 3) := by decide +kernel
theorem d_mo_drop_9 : decode b_mo_drop 9 = .ok (.iconst 1, 1) := by decide +kernel
theorem d_mo_drop_10 : decode b_mo_drop 10 = .ok (.isub, 1) := by decide +kernel
theorem d_mo_drop_11 : decode b_mo_drop 11 = .ok (.istore_n 1, 1) := by decide +kernel
theorem d_mo_drop_12 : decode b_mo_drop 12 = .ok (.iload_n 1, 1) := by decide +kernel
theorem d_mo_drop_13 : decode b_mo_drop 13 = .ok (.ifCond .lt 82, 3) := by decide +kernel
theorem d_mo_drop_16 : decode b_mo_drop 16 = .ok (.iconst 1, 1) := by decide +kernel
theorem d_mo_drop_17 : decode b_mo_drop 17 = .ok (.istore_n 2, 1) := by decide +kernel
theorem d_mo_drop_18 : decode b_mo_drop 18 = .ok (.iconst 0, 1) := by decide +kernel
theorem d_mo_drop_19 : decode b_mo_drop 19 = .ok (.istore_n 3, 1) := by decide +kernel
theorem d_mo_drop_20 : decode b_mo_drop 20 = .ok (.iload_n 3, 1) := by decide +kernel
theorem d_mo_drop_21 : decode b_mo_drop 21 = .ok (.bipush 31, 2) := by decide +kernel
theorem d_mo_drop_23 : decode b_mo_drop 23 = .ok (.if_icmp .ge 42, 3) := by decide +kernel
theorem d_mo_drop_26 : decode b_mo_drop 26 = .ok (.iload_n 2, 1) := by decide +kernel
theorem d_mo_drop_27 : decode b_mo_drop 27 = .ok (.ifCond .eq 30, 3) := by decide +kernel
theorem d_mo_drop_30 : decode b_mo_drop 30 = .ok (.aload_n 0, 1) := by decide +kernel
theorem d_mo_drop_31 : decode b_mo_drop 31 = .ok (.getfield 17, 3) := by decide +kernel
theorem d_mo_drop_34 : decode b_mo_drop 34 = .ok (.bipush 31, 2) := by decide +kernel
theorem d_mo_drop_36 : decode b_mo_drop 36 = .ok (.iload_n 1, 1) := by decide +kernel
theorem d_mo_drop_37 : decode b_mo_drop 37 = .ok (.imul, 1) := by decide +kernel
theorem d_mo_drop_38 : decode b_mo_drop 38 = .ok (.iload_n 3, 1) := by decide +kernel
theorem d_mo_drop_39 : decode b_mo_drop 39 = .ok (.iadd, 1) := by decide +kernel
theorem d_mo_drop_40 : decode b_mo_drop 40 = .ok (.baload, 1) := by decide +kernel
theorem d_mo_drop_41 : decode b_mo_drop 41 = .ok (.ifCond .eq 12, 3) := by decide +kernel
theorem d_mo_drop_44 : decode b_mo_drop 44 = .ok (.aload_n 0, 1) := by decide +kernel
theorem d_mo_drop_45 : decode b_mo_drop 45 = .ok (.iload_n 3, 1) := by decide +kernel
theorem d_mo_drop_46 : decode b_mo_drop 46 = .ok (.invokevirtual 67, 3) := by decide +kernel
theorem d_mo_drop_49 : decode b_mo_drop 49 = .ok (.iconst 1, 1) := by decide +kernel
theorem d_mo_drop_50 : decode b_mo_drop 50 = .ok (.if_icmp .le 7, 3) := by decide +kernel
theorem d_mo_drop_53 : decode b_mo_drop 53 = .ok (.iconst 1, 1) := by decide +kernel
theorem d_mo_drop_54 : decode b_mo_drop 54 = .ok (.goto 4, 3) := by decide +kernel
theorem d_mo_drop_57 : decode b_mo_drop 57 = .ok (.iconst 0, 1) := by decide +kernel
theorem d_mo_drop_58 : decode b_mo_drop 58 = .ok (.istore_n 2, 1) := by decide +kernel
theorem d_mo_drop_59 : decode b_mo_drop 59 = .ok (.iinc 3 1, 3) := by decide +kernel
theorem d_mo_drop_62 : decode b_mo_drop 62 = .ok (.goto (-42), 3) := by decide +kernel
theorem d_mo_drop_65 : decode b_mo_drop 65 = .ok (.aload_n 0, 1) := by decide +kernel
theorem d_mo_drop_66 : decode b_mo_drop 66 = .ok (.getfield 20, 3) := by decide +kernel
theorem d_mo_drop_69 : decode b_mo_drop 69 = .ok (.iload_n 1, 1) := by decide +kernel
theorem d_mo_drop_70 : decode b_mo_drop 70 = .ok (.aload_n 0, 1) := by decide +kernel
theorem d_mo_drop_71 : decode b_mo_drop 71 = .ok (.getfield 20, 3) := by decide +kernel
theorem d_mo_drop_74 : decode b_mo_drop 74 = .ok (.iload_n 1, 1) := by decide +kernel
theorem d_mo_drop_75 : decode b_mo_drop 75 = .ok (.baload, 1) := by decide +kernel
theorem d_mo_drop_76 : decode b_mo_drop 76 = .ok (.ifCond .ne 7, 3) := by decide +kernel
theorem d_mo_drop_79 : decode b_mo_drop 79 = .ok (.iload_n 2, 1) := by decide +kernel
theorem d_mo_drop_80 : decode b_mo_drop 80 = .ok (.ifCond .eq 7, 3) := by decide +kernel
theorem d_mo_drop_83 : decode b_mo_drop 83 = .ok (.iconst 1, 1) := by decide +kernel
theorem d_mo_drop_84 : decode b_mo_drop 84 = .ok (.goto 4, 3) := by decide +kernel
theorem d_mo_drop_87 : decode b_mo_drop 87 = .ok (.iconst 0, 1) := by decide +kernel
theorem d_mo_drop_88 : decode b_mo_drop 88 = .ok (.bastore, 1) := by decide +kernel
theorem d_mo_drop_89 : decode b_mo_drop 89 = .ok (.iinc 1 (-1), 3) := by decide +kernel
theorem d_mo_drop_92 : decode b_mo_drop 92 = .ok (.goto (-80), 3) := by decide +kernel
theorem d_mo_drop_95 : decode b_mo_drop 95 = .ok (.aload_n 0, 1) := by decide +kernel
theorem d_mo_drop_96 : decode b_mo_drop 96 = .ok (.invokevirtual 63, 3) := by decide +kernel
theorem d_mo_drop_99 : decode b_mo_drop 99 = .ok (.ireturn, 1) := by decide +kernel
theorem d_mo_finders_0 : decode b_mo_finders 0 = .ok (.aload_n 0, 1) := by decide +kernel
theorem d_mo_finders_1 : decode b_mo_finders 1 = .ok (.iload_n 1, 1) := by decide +kernel
theorem d_mo_finders_2 : decode b_mo_finders 2 = .ok (.ifCond .lt 13, 3) := by decide +kernel
theorem d_mo_finders_5 : decode b_mo_finders 5 = .ok (.iload_n 1, 1) := by decide +kernel
theorem d_mo_finders_6 : decode b_mo_finders 6 = .ok (.bipush 31, 2) := by decide +kernel
theorem d_mo_finders_8 : decode b_mo_finders 8 = .ok (.if_icmp .ge 7, 3) := by decide +kernel
theorem d_mo_finders_11 : decode b_mo_finders 11 = .ok (.iconst 0, 1) := by decide +kernel
theorem d_mo_finders_12 : decode b_mo_finders 12 = .ok (.goto 4, 3) := by decide +kernel
theorem d_mo_finders_15 : decode b_mo_finders 15 = .ok (.iconst 1, 1) := by decide +kernel
theorem d_mo_finders_16 : decode b_mo_finders 16 = .ok (.putfield 42, 3) := by decide +kernel
theorem d_mo_finders_19 : decode b_mo_finders 19 = .ok (.aload_n 0, 1) := by decide +kernel
theorem d_mo_finders_20 : decode b_mo_finders 20 = .ok (.getfield 42, 3) := by decide +kernel
theorem d_mo_finders_23 : decode b_mo_finders 23 = .ok (.ifCond .le 7, 3) := by decide +kernel
theorem d_mo_finders_26 : decode b_mo_finders 26 = .ok (.iconst 0, 1) := by decide +kernel
theorem d_mo_finders_27 : decode b_mo_finders 27 = .ok (.goto 8, 3) := by decide +kernel
theorem d_mo_finders_30 : decode b_mo_finders 30 = .ok (.aload_n 0, 1) := by decide +kernel
theorem d_mo_finders_31 : decode b_mo_finders 31 = .ok (.iload_n 1, 1) := by decide +kernel
theorem d_mo_finders_32 : decode b_mo_finders 32 = .ok (.invokevirtual 67, 3) := by decide +kernel
theorem d_mo_finders_35 : decode b_mo_finders 35 = .ok (.ireturn, 1) := by decide +kernel
theorem d_mo_noSeeds_0 : decode b_mo_noSeeds 0 = .ok (.iconst 0, 1) := by decide +kernel
theorem d_mo_noSeeds_1 : decode b_mo_noSeeds 1 = .ok (.istore_n 1, 1) := by decide +kernel
theorem d_mo_noSeeds_2 : decode b_mo_noSeeds 2 = .ok (.iload_n 1, 1) := by decide +kernel
theorem d_mo_noSeeds_3 : decode b_mo_noSeeds 3 = .ok (.aload_n 0, 1) := by decide +kernel
theorem d_mo_noSeeds_4 : decode b_mo_noSeeds 4 = .ok (.getfield 45, 3) := by decide +kernel
theorem d_mo_noSeeds_7 : decode b_mo_noSeeds 7 = .ok (.if_icmp .ge 16, 3) := by decide +kernel
theorem d_mo_noSeeds_10 : decode b_mo_noSeeds 10 = .ok (.aload_n 0, 1) := by decide +kernel
theorem d_mo_noSeeds_11 : decode b_mo_noSeeds 11 = .ok (.getfield 23, 3) := by decide +kernel
theorem d_mo_noSeeds_14 : decode b_mo_noSeeds 14 = .ok (.iload_n 1, 1) := by decide +kernel
theorem d_mo_noSeeds_15 : decode b_mo_noSeeds 15 = .ok (.iconst (-1), 1) := by decide +kernel
theorem d_mo_noSeeds_16 : decode b_mo_noSeeds 16 = .ok (.iastore, 1) := by decide +kernel
theorem d_mo_noSeeds_17 : decode b_mo_noSeeds 17 = .ok (.iinc 1 1, 3) := by decide +kernel
theorem d_mo_noSeeds_20 : decode b_mo_noSeeds 20 = .ok (.goto (-18), 3) := by decide +kernel
theorem d_mo_noSeeds_23 : decode b_mo_noSeeds 23 = .ok (.return_, 1) := by decide +kernel
theorem d_mo_degree_0 : decode b_mo_degree 0 = .ok (.aload_n 0, 1) := by decide +kernel
theorem d_mo_degree_1 : decode b_mo_degree 1 = .ok (.iload_n 1, 1) := by decide +kernel
theorem d_mo_degree_2 : decode b_mo_degree 2 = .ok (.iconst 1, 1) := by decide +kernel
theorem d_mo_degree_3 : decode b_mo_degree 3 = .ok (.if_icmp .lt 9, 3) := by decide +kernel
theorem d_mo_degree_6 : decode b_mo_degree 6 = .ok (.iload_n 1, 1) := by decide +kernel
theorem d_mo_degree_7 : decode b_mo_degree 7 = .ok (.bipush 16, 2) := by decide +kernel
theorem d_mo_degree_9 : decode b_mo_degree 9 = .ok (.if_icmp .le 7, 3) := by decide +kernel
theorem d_mo_degree_12 : decode b_mo_degree 12 = .ok (.iconst 1, 1) := by decide +kernel
theorem d_mo_degree_13 : decode b_mo_degree 13 = .ok (.goto 4, 3) := by decide +kernel
theorem d_mo_degree_16 : decode b_mo_degree 16 = .ok (.iconst 0, 1) := by decide +kernel
theorem d_mo_degree_17 : decode b_mo_degree 17 = .ok (.putfield 42, 3) := by decide +kernel
theorem d_mo_degree_20 : decode b_mo_degree 20 = .ok (.aload_n 0, 1) := by decide +kernel
theorem d_mo_degree_21 : decode b_mo_degree 21 = .ok (.getfield 42, 3) := by decide +kernel
theorem d_mo_degree_24 : decode b_mo_degree 24 = .ok (.ifCond .le 4, 3) := by decide +kernel
theorem d_mo_degree_27 : decode b_mo_degree 27 = .ok (.return_, 1) := by decide +kernel
theorem d_mo_degree_28 : decode b_mo_degree 28 = .ok (.aload_n 0, 1) := by decide +kernel
theorem d_mo_degree_29 : decode b_mo_degree 29 = .ok (.iload_n 1, 1) := by decide +kernel
theorem d_mo_degree_30 : decode b_mo_degree 30 = .ok (.putfield 39, 3) := by decide +kernel
theorem d_mo_degree_33 : decode b_mo_degree 33 = .ok (.iconst 0, 1) := by decide +kernel
theorem d_mo_degree_34 : decode b_mo_degree 34 = .ok (.istore_n 2, 1) := by decide +kernel
theorem d_mo_degree_35 : decode b_mo_degree 35 = .ok (.iload_n 2, 1) := by decide +kernel
theorem d_mo_degree_36 : decode b_mo_degree 36 = .ok (.bipush 16, 2) := by decide +kernel
theorem d_mo_degree_38 : decode b_mo_degree 38 = .ok (.if_icmp .ge 27, 3) := by decide +kernel
theorem d_mo_degree_41 : decode b_mo_degree 41 = .ok (.aload_n 0, 1) := by decide +kernel
theorem d_mo_degree_42 : decode b_mo_degree 42 = .ok (.getfield 26, 3) := by decide +kernel
theorem d_mo_degree_45 : decode b_mo_degree 45 = .ok (.iload_n 2, 1) := by decide +kernel
theorem d_mo_degree_46 : decode b_mo_degree 46 = .ok (.iload_n 2, 1) := by decide +kernel
theorem d_mo_degree_47 : decode b_mo_degree 47 = .ok (.iload_n 1, 1) := by decide +kernel
theorem d_mo_degree_48 : decode b_mo_degree 48 = .ok (.iconst 1, 1) := by decide +kernel
theorem d_mo_degree_49 : decode b_mo_degree 49 = .ok (.isub, 1) := by decide +kernel
theorem d_mo_degree_50 : decode b_mo_degree 50 = .ok (.if_icmp .ne 7, 3) := by decide +kernel
theorem d_mo_degree_53 : decode b_mo_degree 53 = .ok (.iconst 1, 1) := by decide +kernel
theorem d_mo_degree_54 : decode b_mo_degree 54 = .ok (.goto 4, 3) := by decide +kernel
theorem d_mo_degree_57 : decode b_mo_degree 57 = .ok (.iconst 0, 1) := by decide +kernel
theorem d_mo_degree_58 : decode b_mo_degree 58 = .ok (.bastore, 1) := by decide +kernel
theorem d_mo_degree_59 : decode b_mo_degree 59 = .ok (.iinc 2 1, 3) := by decide +kernel
theorem d_mo_degree_62 : decode b_mo_degree 62 = .ok (.goto (-27), 3) := by decide +kernel
theorem d_mo_degree_65 : decode b_mo_degree 65 = .ok (.aload_n 0, 1) := by decide +kernel
theorem d_mo_degree_66 : decode b_mo_degree 66 = .ok (.invokevirtual 71, 3) := by decide +kernel
theorem d_mo_degree_69 : decode b_mo_degree 69 = .ok (.return_, 1) := by decide +kernel
theorem d_mo_machine_0 : decode b_mo_machine 0 = .ok (.aload_n 0, 1) := by decide +kernel
theorem d_mo_machine_1 : decode b_mo_machine 1 = .ok (.iload_n 1, 1) := by decide +kernel
theorem d_mo_machine_2 : decode b_mo_machine 2 = .ok (.ifCond .lt 11, 3) := by decide +kernel
theorem d_mo_machine_5 : decode b_mo_machine 5 = .ok (.iload_n 1, 1) := by decide +kernel
theorem d_mo_machine_6 : decode b_mo_machine 6 = .ok (.aload_n 0, 1) := by decide +kernel
theorem d_mo_machine_7 : decode b_mo_machine 7 = .ok (.getfield 39, 3) := by decide +kernel
theorem d_mo_machine_10 : decode b_mo_machine 10 = .ok (.if_icmp .lt 7, 3) := by decide +kernel
theorem d_mo_machine_13 : decode b_mo_machine 13 = .ok (.iconst 1, 1) := by decide +kernel
theorem d_mo_machine_14 : decode b_mo_machine 14 = .ok (.goto 22, 3) := by decide +kernel
theorem d_mo_machine_17 : decode b_mo_machine 17 = .ok (.iload_n 1, 1) := by decide +kernel
theorem d_mo_machine_18 : decode b_mo_machine 18 = .ok (.aload_n 0, 1) := by decide +kernel
theorem d_mo_machine_19 : decode b_mo_machine 19 = .ok (.getfield 39, 3) := by decide +kernel
theorem d_mo_machine_22 : decode b_mo_machine 22 = .ok (.iconst 1, 1) := by decide +kernel
theorem d_mo_machine_23 : decode b_mo_machine 23 = .ok (.isub, 1) := by decide +kernel
theorem d_mo_machine_24 : decode b_mo_machine 24 = .ok (.if_icmp .ne 11, 3) := by decide +kernel
theorem d_mo_machine_27 : decode b_mo_machine 27 = .ok (.iload_n 2, 1) := by decide +kernel
theorem d_mo_machine_28 : decode b_mo_machine 28 = .ok (.ifCond .ne 7, 3) := by decide +kernel
theorem d_mo_machine_31 : decode b_mo_machine 31 = .ok (.iconst 2, 1) := by decide +kernel
theorem d_mo_machine_32 : decode b_mo_machine 32 = .ok (.goto 4, 3) := by decide +kernel
theorem d_mo_machine_35 : decode b_mo_machine 35 = .ok (.iconst 0, 1) := by decide +kernel
theorem d_mo_machine_36 : decode b_mo_machine 36 = .ok (.putfield 42, 3) := by decide +kernel
theorem d_mo_machine_39 : decode b_mo_machine 39 = .ok (.aload_n 0, 1) := by decide +kernel
theorem d_mo_machine_40 : decode b_mo_machine 40 = .ok (.getfield 42, 3) := by decide +kernel
theorem d_mo_machine_43 : decode b_mo_machine 43 = .ok (.ifCond .gt 13, 3) := by decide +kernel
theorem d_mo_machine_46 : decode b_mo_machine 46 = .ok (.aload_n 0, 1) := by decide +kernel
theorem d_mo_machine_47 : decode b_mo_machine 47 = .ok (.getfield 26, 3) := by decide +kernel
theorem d_mo_machine_50 : decode b_mo_machine 50 = .ok (.iload_n 1, 1) := by decide +kernel
theorem d_mo_machine_51 : decode b_mo_machine 51 = .ok (.baload, 1) := by decide +kernel
theorem d_mo_machine_52 : decode b_mo_machine 52 = .ok (.iload_n 2, 1) := by decide +kernel
theorem d_mo_machine_53 : decode b_mo_machine 53 = .ok (.if_icmp .ne 5, 3) := by decide +kernel
theorem d_mo_machine_56 : decode b_mo_machine 56 = .ok (.iconst 0, 1) := by decide +kernel
theorem d_mo_machine_57 : decode b_mo_machine 57 = .ok (.ireturn, 1) := by decide +kernel
theorem d_mo_machine_58 : decode b_mo_machine 58 = .ok (.aload_n 0, 1) := by decide +kernel
theorem d_mo_machine_59 : decode b_mo_machine 59 = .ok (.getfield 26, 3) := by decide +kernel
theorem d_mo_machine_62 : decode b_mo_machine 62 = .ok (.iload_n 1, 1) := by decide +kernel
theorem d_mo_machine_63 : decode b_mo_machine 63 = .ok (.iload_n 2, 1) := by decide +kernel
theorem d_mo_machine_64 : decode b_mo_machine 64 = .ok (.bastore, 1) := by decide +kernel
theorem d_mo_machine_65 : decode b_mo_machine 65 = .ok (.aload_n 0, 1) := by decide +kernel
theorem d_mo_machine_66 : decode b_mo_machine 66 = .ok (.invokevirtual 71, 3) := by decide +kernel
theorem d_mo_machine_69 : decode b_mo_machine 69 = .ok (.iconst 1, 1) := by decide +kernel
theorem d_mo_machine_70 : decode b_mo_machine 70 = .ok (.ireturn, 1) := by decide +kernel
theorem d_mo_step_0 : decode b_mo_step 0 = .ok (.iconst 0, 1) := by decide +kernel
theorem d_mo_step_1 : decode b_mo_step 1 = .ok (.istore_n 2, 1) := by decide +kernel
theorem d_mo_step_2 : decode b_mo_step 2 = .ok (.iconst 0, 1) := by decide +kernel
theorem d_mo_step_3 : decode b_mo_step 3 = .ok (.istore_n 3, 1) := by decide +kernel
theorem d_mo_step_4 : decode b_mo_step 4 = .ok (.iload_n 3, 1) := by decide +kernel
theorem d_mo_step_5 : decode b_mo_step 5 = .ok (.aload_n 0, 1) := by decide +kernel
theorem d_mo_step_6 : decode b_mo_step 6 = .ok (.getfield 39, 3) := by decide +kernel
theorem d_mo_step_9 : decode b_mo_step 9 = .ok (.if_icmp .ge 30, 3) := by decide +kernel
theorem d_mo_step_12 : decode b_mo_step 12 = .ok (.aload_n 0, 1) := by decide +kernel
theorem d_mo_step_13 : decode b_mo_step 13 = .ok (.getfield 26, 3) := by decide +kernel
theorem d_mo_step_16 : decode b_mo_step 16 = .ok (.iload_n 3, 1) := by decide +kernel
theorem d_mo_step_17 : decode b_mo_step 17 = .ok (.baload, 1) := by decide +kernel
theorem d_mo_step_18 : decode b_mo_step 18 = .ok (.ifCond .eq 13, 3) := by decide +kernel
theorem d_mo_step_21 : decode b_mo_step 21 = .ok (.iload_n 2, 1) := by decide +kernel
theorem d_mo_step_22 : decode b_mo_step 22 = .ok (.iload_n 1, 1) := by decide +kernel
theorem d_mo_step_23 : decode b_mo_step 23 = .ok (.iload_n 3, 1) := by decide +kernel
theorem d_mo_step_24 : decode b_mo_step 24 = .ok (.ishr, 1) := by decide +kernel
theorem d_mo_step_25 : decode b_mo_step 25 = .ok (.iconst 1, 1) := by decide +kernel
theorem d_mo_step_26 : decode b_mo_step 26 = .ok (.iand, 1) := by decide +kernel
theorem d_mo_step_27 : decode b_mo_step 27 = .ok (.ixor, 1) := by decide +kernel
theorem d_mo_step_28 : decode b_mo_step 28 = .ok (.goto 4, 3) := by decide +kernel
theorem d_mo_step_31 : decode b_mo_step 31 = .ok (.iload_n 2, 1) := by decide +kernel
theorem d_mo_step_32 : decode b_mo_step 32 = .ok (.istore_n 2, 1) := by decide +kernel
theorem d_mo_step_33 : decode b_mo_step 33 = .ok (.iinc 3 1, 3) := by decide +kernel
theorem d_mo_step_36 : decode b_mo_step 36 = .ok (.goto (-32), 3) := by decide +kernel
theorem d_mo_step_39 : decode b_mo_step 39 = .ok (.iload_n 1, 1) := by decide +kernel
theorem d_mo_step_40 : decode b_mo_step 40 = .ok (.iconst 1, 1) := by decide +kernel
theorem d_mo_step_41 : decode b_mo_step 41 = .ok (.ishl, 1) := by decide +kernel
theorem d_mo_step_42 : decode b_mo_step 42 = .ok (.iload_n 2, 1) := by decide +kernel
theorem d_mo_step_43 : decode b_mo_step 43 = .ok (.ior, 1) := by decide +kernel
theorem d_mo_step_44 : decode b_mo_step 44 = .ok (.iconst 1, 1) := by decide +kernel
theorem d_mo_step_45 : decode b_mo_step 45 = .ok (.aload_n 0, 1) := by decide +kernel
theorem d_mo_step_46 : decode b_mo_step 46 = .ok (.getfield 39, 3) := by decide +kernel
theorem d_mo_step_49 : decode b_mo_step 49 = .ok (.ishl, 1) := by decide +kernel
theorem d_mo_step_50 : decode b_mo_step 50 = .ok (.iconst 1, 1) := by decide +kernel
theorem d_mo_step_51 : decode b_mo_step 51 = .ok (.isub, 1) := by decide +kernel
theorem d_mo_step_52 : decode b_mo_step 52 = .ok (.iand, 1) := by decide +kernel
theorem d_mo_step_53 : decode b_mo_step 53 = .ok (.ireturn, 1) := by decide +kernel
theorem d_mo_brought_0 : decode b_mo_brought 0 = .ok (.iload_n 1, 1) := by decide +kernel
theorem d_mo_brought_1 : decode b_mo_brought 1 = .ok (.istore 4, 2) := by decide +kernel
theorem d_mo_brought_3 : decode b_mo_brought 3 = .ok (.iconst 0, 1) := by decide +kernel
theorem d_mo_brought_4 : decode b_mo_brought 4 = .ok (.istore 5, 2) := by decide +kernel
theorem d_mo_brought_6 : decode b_mo_brought 6 = .ok (.iload 5, 2) := by decide +kernel
theorem d_mo_brought_8 : decode b_mo_brought 8 = .ok (.aload_n 0, 1) := by decide +kernel
theorem d_mo_brought_9 : decode b_mo_brought 9 = .ok (.getfield 36, 3) := by decide +kernel
theorem d_mo_brought_12 : decode b_mo_brought 12 = .ok (.iconst 1, 1) := by decide +kernel
theorem d_mo_brought_13 : decode b_mo_brought 13 = .ok (.isub, 1) := by decide +kernel
theorem d_mo_brought_14 : decode b_mo_brought 14 = .ok (.iload_n 3, 1) := by decide +kernel
theorem d_mo_brought_15 : decode b_mo_brought 15 = .ok (.isub, 1) := by decide +kernel
theorem d_mo_brought_16 : decode b_mo_brought 16 = .ok (.if_icmp .ge 17, 3) := by decide +kernel
theorem d_mo_brought_19 : decode b_mo_brought 19 = .ok (.aload_n 0, 1) := by decide +kernel
theorem d_mo_brought_20 : decode b_mo_brought 20 = .ok (.iload 4, 2) := by decide +kernel
theorem d_mo_brought_22 : decode b_mo_brought 22 = .ok (.invokevirtual 74, 3) := by decide +kernel
theorem d_mo_brought_25 : decode b_mo_brought 25 = .ok (.istore 4, 2) := by decide +kernel
theorem d_mo_brought_27 : decode b_mo_brought 27 = .ok (.iinc 5 1, 3) := by decide +kernel
theorem d_mo_brought_30 : decode b_mo_brought 30 = .ok (.goto (-24), 3) := by decide +kernel
theorem d_mo_brought_33 : decode b_mo_brought 33 = .ok (.iload 4, 2) := by decide +kernel
theorem d_mo_brought_35 : decode b_mo_brought 35 = .ok (.iconst 5, 1) := by decide +kernel
theorem d_mo_brought_36 : decode b_mo_brought 36 = .ok (.iload_n 2, 1) := by decide +kernel
theorem d_mo_brought_37 : decode b_mo_brought 37 = .ok (.imul, 1) := by decide +kernel
theorem d_mo_brought_38 : decode b_mo_brought 38 = .ok (.iconst 1, 1) := by decide +kernel
theorem d_mo_brought_39 : decode b_mo_brought 39 = .ok (.iadd, 1) := by decide +kernel
theorem d_mo_brought_40 : decode b_mo_brought 40 = .ok (.aload_n 0, 1) := by decide +kernel
theorem d_mo_brought_41 : decode b_mo_brought 41 = .ok (.getfield 39, 3) := by decide +kernel
theorem d_mo_brought_44 : decode b_mo_brought 44 = .ok (.irem, 1) := by decide +kernel
theorem d_mo_brought_45 : decode b_mo_brought 45 = .ok (.ishr, 1) := by decide +kernel
theorem d_mo_brought_46 : decode b_mo_brought 46 = .ok (.iconst 1, 1) := by decide +kernel
theorem d_mo_brought_47 : decode b_mo_brought 47 = .ok (.iand, 1) := by decide +kernel
theorem d_mo_brought_48 : decode b_mo_brought 48 = .ok (.ireturn, 1) := by decide +kernel
theorem d_mo_makes_0 : decode b_mo_makes 0 = .ok (.iload_n 1, 1) := by decide +kernel
theorem d_mo_makes_1 : decode b_mo_makes 1 = .ok (.istore_n 3, 1) := by decide +kernel
theorem d_mo_makes_2 : decode b_mo_makes 2 = .ok (.aload_n 0, 1) := by decide +kernel
theorem d_mo_makes_3 : decode b_mo_makes 3 = .ok (.getfield 36, 3) := by decide +kernel
theorem d_mo_makes_6 : decode b_mo_makes 6 = .ok (.iconst 1, 1) := by decide +kernel
theorem d_mo_makes_7 : decode b_mo_makes 7 = .ok (.isub, 1) := by decide +kernel
theorem d_mo_makes_8 : decode b_mo_makes 8 = .ok (.istore 4, 2) := by decide +kernel
theorem d_mo_makes_10 : decode b_mo_makes 10 = .ok (.iload 4, 2) := by decide +kernel
theorem d_mo_makes_12 : decode b_mo_makes 12 = .ok (.ifCond .lt 77, 3) := by decide +kernel
theorem d_mo_makes_15 : decode b_mo_makes 15 = .ok (.iconst 0, 1) := by decide +kernel
theorem d_mo_makes_16 : decode b_mo_makes 16 = .ok (.istore 5, 2) := by decide +kernel
theorem d_mo_makes_18 : decode b_mo_makes 18 = .ok (.iload 5, 2) := by decide +kernel
theorem d_mo_makes_20 : decode b_mo_makes 20 = .ok (.aload_n 0, 1) := by decide +kernel
theorem d_mo_makes_21 : decode b_mo_makes 21 = .ok (.getfield 32, 3) := by decide +kernel
theorem d_mo_makes_24 : decode b_mo_makes 24 = .ok (.if_icmp .ge 53, 3) := by decide +kernel
theorem d_mo_makes_27 : decode b_mo_makes 27 = .ok (.aload_n 0, 1) := by decide +kernel
theorem d_mo_makes_28 : decode b_mo_makes 28 = .ok (.getfield 7, 3) := by decide +kernel
theorem d_mo_makes_31 : decode b_mo_makes 31 = .ok (.aload_n 0, 1) := by decide +kernel
theorem d_mo_makes_32 : decode b_mo_makes 32 = .ok (.iload_n 2, 1) := by decide +kernel
theorem d_mo_makes_33 : decode b_mo_makes 33 = .ok (.iload 5, 2) := by decide +kernel
theorem d_mo_makes_35 : decode b_mo_makes 35 = .ok (.iload 4, 2) := by decide +kernel
theorem d_mo_makes_37 : decode b_mo_makes 37 = .ok (.invokevirtual 56, 3) := by decide +kernel
theorem d_mo_makes_40 : decode b_mo_makes 40 = .ok (.iaload, 1) := by decide +kernel
theorem d_mo_makes_41 : decode b_mo_makes 41 = .ok (.istore 6, 2) := by decide +kernel
theorem d_mo_makes_43 : decode b_mo_makes 43 = .ok (.iload 6, 2) := by decide +kernel
theorem d_mo_makes_45 : decode b_mo_makes 45 = .ok (.iconst (-1), 1) := by decide +kernel
theorem d_mo_makes_46 : decode b_mo_makes 46 = .ok (.if_icmp .eq 25, 3) := by decide +kernel
theorem d_mo_makes_49 : decode b_mo_makes 49 = .ok (.iload 6, 2) := by decide +kernel
theorem d_mo_makes_51 : decode b_mo_makes 51 = .ok (.iload_n 3, 1) := by decide +kernel
theorem d_mo_makes_52 : decode b_mo_makes 52 = .ok (.iconst 5, 1) := by decide +kernel
theorem d_mo_makes_53 : decode b_mo_makes 53 = .ok (.iload 5, 2) := by decide +kernel
theorem d_mo_makes_55 : decode b_mo_makes 55 = .ok (.imul, 1) := by decide +kernel
theorem d_mo_makes_56 : decode b_mo_makes 56 = .ok (.iconst 1, 1) := by decide +kernel
theorem d_mo_makes_57 : decode b_mo_makes 57 = .ok (.iadd, 1) := by decide +kernel
theorem d_mo_makes_58 : decode b_mo_makes 58 = .ok (.aload_n 0, 1) := by decide +kernel
theorem d_mo_makes_59 : decode b_mo_makes 59 = .ok (.getfield 39, 3) := by decide +kernel
theorem d_mo_makes_62 : decode b_mo_makes 62 = .ok (.irem, 1) := by decide +kernel
theorem d_mo_makes_63 : decode b_mo_makes 63 = .ok (.ishr, 1) := by decide +kernel
theorem d_mo_makes_64 : decode b_mo_makes 64 = .ok (.iconst 1, 1) := by decide +kernel
theorem d_mo_makes_65 : decode b_mo_makes 65 = .ok (.iand, 1) := by decide +kernel
theorem d_mo_makes_66 : decode b_mo_makes 66 = .ok (.if_icmp .eq 5, 3) := by decide +kernel
theorem d_mo_makes_69 : decode b_mo_makes 69 = .ok (.iconst 0, 1) := by decide +kernel
theorem d_mo_makes_70 : decode b_mo_makes 70 = .ok (.ireturn, 1) := by decide +kernel
theorem d_mo_makes_71 : decode b_mo_makes 71 = .ok (.iinc 5 1, 3) := by decide +kernel
theorem d_mo_makes_74 : decode b_mo_makes 74 = .ok (.goto (-56), 3) := by decide +kernel
theorem d_mo_makes_77 : decode b_mo_makes 77 = .ok (.aload_n 0, 1) := by decide +kernel
theorem d_mo_makes_78 : decode b_mo_makes 78 = .ok (.iload_n 3, 1) := by decide +kernel
theorem d_mo_makes_79 : decode b_mo_makes 79 = .ok (.invokevirtual 74, 3) := by decide +kernel
theorem d_mo_makes_82 : decode b_mo_makes 82 = .ok (.istore_n 3, 1) := by decide +kernel
theorem d_mo_makes_83 : decode b_mo_makes 83 = .ok (.iinc 4 (-1), 3) := by decide +kernel
theorem d_mo_makes_86 : decode b_mo_makes 86 = .ok (.goto (-76), 3) := by decide +kernel
theorem d_mo_makes_89 : decode b_mo_makes 89 = .ok (.iconst 1, 1) := by decide +kernel
theorem d_mo_makes_90 : decode b_mo_makes 90 = .ok (.ireturn, 1) := by decide +kernel
theorem d_mo_seed_0 : decode b_mo_seed 0 = .ok (.aload_n 0, 1) := by decide +kernel
theorem d_mo_seed_1 : decode b_mo_seed 1 = .ok (.aload_n 0, 1) := by decide +kernel
theorem d_mo_seed_2 : decode b_mo_seed 2 = .ok (.iload_n 1, 1) := by decide +kernel
theorem d_mo_seed_3 : decode b_mo_seed 3 = .ok (.invokevirtual 48, 3) := by decide +kernel
theorem d_mo_seed_6 : decode b_mo_seed 6 = .ok (.ifCond .eq 7, 3) := by decide +kernel
theorem d_mo_seed_9 : decode b_mo_seed 9 = .ok (.iconst 0, 1) := by decide +kernel
theorem d_mo_seed_10 : decode b_mo_seed 10 = .ok (.goto 4, 3) := by decide +kernel
theorem d_mo_seed_13 : decode b_mo_seed 13 = .ok (.iconst 1, 1) := by decide +kernel
theorem d_mo_seed_14 : decode b_mo_seed 14 = .ok (.putfield 42, 3) := by decide +kernel
theorem d_mo_seed_17 : decode b_mo_seed 17 = .ok (.aload_n 0, 1) := by decide +kernel
theorem d_mo_seed_18 : decode b_mo_seed 18 = .ok (.getfield 42, 3) := by decide +kernel
theorem d_mo_seed_21 : decode b_mo_seed 21 = .ok (.ifCond .le 5, 3) := by decide +kernel
theorem d_mo_seed_24 : decode b_mo_seed 24 = .ok (.iconst 0, 1) := by decide +kernel
theorem d_mo_seed_25 : decode b_mo_seed 25 = .ok (.ireturn, 1) := by decide +kernel
theorem d_mo_seed_26 : decode b_mo_seed 26 = .ok (.aload_n 0, 1) := by decide +kernel
theorem d_mo_seed_27 : decode b_mo_seed 27 = .ok (.getfield 23, 3) := by decide +kernel
theorem d_mo_seed_30 : decode b_mo_seed 30 = .ok (.iload_n 1, 1) := by decide +kernel
theorem d_mo_seed_31 : decode b_mo_seed 31 = .ok (.iconst (-1), 1) := by decide +kernel
theorem d_mo_seed_32 : decode b_mo_seed 32 = .ok (.iastore, 1) := by decide +kernel
theorem d_mo_seed_33 : decode b_mo_seed 33 = .ok (.iconst 0, 1) := by decide +kernel
theorem d_mo_seed_34 : decode b_mo_seed 34 = .ok (.istore_n 2, 1) := by decide +kernel
theorem d_mo_seed_35 : decode b_mo_seed 35 = .ok (.iload_n 2, 1) := by decide +kernel
theorem d_mo_seed_36 : decode b_mo_seed 36 = .ok (.iconst 1, 1) := by decide +kernel
theorem d_mo_seed_37 : decode b_mo_seed 37 = .ok (.aload_n 0, 1) := by decide +kernel
theorem d_mo_seed_38 : decode b_mo_seed 38 = .ok (.getfield 39, 3) := by decide +kernel
theorem d_mo_seed_41 : decode b_mo_seed 41 = .ok (.ishl, 1) := by decide +kernel
theorem d_mo_seed_42 : decode b_mo_seed 42 = .ok (.if_icmp .ge 39, 3) := by decide +kernel
theorem d_mo_seed_45 : decode b_mo_seed 45 = .ok (.aload_n 0, 1) := by decide +kernel
theorem d_mo_seed_46 : decode b_mo_seed 46 = .ok (.getfield 23, 3) := by decide +kernel
theorem d_mo_seed_49 : decode b_mo_seed 49 = .ok (.iload_n 1, 1) := by decide +kernel
theorem d_mo_seed_50 : decode b_mo_seed 50 = .ok (.iaload, 1) := by decide +kernel
theorem d_mo_seed_51 : decode b_mo_seed 51 = .ok (.iconst (-1), 1) := by decide +kernel
theorem d_mo_seed_52 : decode b_mo_seed 52 = .ok (.if_icmp .ne 29, 3) := by decide +kernel
theorem d_mo_seed_55 : decode b_mo_seed 55 = .ok (.aload_n 0, 1) := by decide +kernel
theorem d_mo_seed_56 : decode b_mo_seed 56 = .ok (.getfield 23, 3) := by decide +kernel
theorem d_mo_seed_59 : decode b_mo_seed 59 = .ok (.iload_n 1, 1) := by decide +kernel
theorem d_mo_seed_60 : decode b_mo_seed 60 = .ok (.aload_n 0, 1) := by decide +kernel
theorem d_mo_seed_61 : decode b_mo_seed 61 = .ok (.iload_n 2, 1) := by decide +kernel
theorem d_mo_seed_62 : decode b_mo_seed 62 = .ok (.iload_n 1, 1) := by decide +kernel
theorem d_mo_seed_63 : decode b_mo_seed 63 = .ok (.invokevirtual 77, 3) := by decide +kernel
theorem d_mo_seed_66 : decode b_mo_seed 66 = .ok (.ifCond .eq 7, 3) := by decide +kernel
theorem d_mo_seed_69 : decode b_mo_seed 69 = .ok (.iload_n 2, 1) := by decide +kernel
theorem d_mo_seed_70 : decode b_mo_seed 70 = .ok (.goto 4, 3) := by decide +kernel
theorem d_mo_seed_73 : decode b_mo_seed 73 = .ok (.iconst (-1), 1) := by decide +kernel
theorem d_mo_seed_74 : decode b_mo_seed 74 = .ok (.iastore, 1) := by decide +kernel
theorem d_mo_seed_75 : decode b_mo_seed 75 = .ok (.iinc 2 1, 3) := by decide +kernel
theorem d_mo_seed_78 : decode b_mo_seed 78 = .ok (.goto (-43), 3) := by decide +kernel
theorem d_mo_seed_81 : decode b_mo_seed 81 = .ok (.aload_n 0, 1) := by decide +kernel
theorem d_mo_seed_82 : decode b_mo_seed 82 = .ok (.getfield 23, 3) := by decide +kernel
theorem d_mo_seed_85 : decode b_mo_seed 85 = .ok (.iload_n 1, 1) := by decide +kernel
theorem d_mo_seed_86 : decode b_mo_seed 86 = .ok (.iaload, 1) := by decide +kernel
theorem d_mo_seed_87 : decode b_mo_seed 87 = .ok (.iconst (-1), 1) := by decide +kernel
theorem d_mo_seed_88 : decode b_mo_seed 88 = .ok (.if_icmp .ne 7, 3) := by decide +kernel
theorem d_mo_seed_91 : decode b_mo_seed 91 = .ok (.iconst 1, 1) := by decide +kernel
theorem d_mo_seed_92 : decode b_mo_seed 92 = .ok (.goto 4, 3) := by decide +kernel
theorem d_mo_seed_95 : decode b_mo_seed 95 = .ok (.iconst 0, 1) := by decide +kernel
theorem d_mo_seed_96 : decode b_mo_seed 96 = .ok (.ireturn, 1) := by decide +kernel
theorem d_mo_seedOf_0 : decode b_mo_seedOf 0 = .ok (.aload_n 0, 1) := by decide +kernel
theorem d_mo_seedOf_1 : decode b_mo_seedOf 1 = .ok (.aload_n 0, 1) := by decide +kernel
theorem d_mo_seedOf_2 : decode b_mo_seedOf 2 = .ok (.iload_n 1, 1) := by decide +kernel
theorem d_mo_seedOf_3 : decode b_mo_seedOf 3 = .ok (.invokevirtual 48, 3) := by decide +kernel
theorem d_mo_seedOf_6 : decode b_mo_seedOf 6 = .ok (.ifCond .eq 7, 3) := by decide +kernel
theorem d_mo_seedOf_9 : decode b_mo_seedOf 9 = .ok (.iconst 0, 1) := by decide +kernel
theorem d_mo_seedOf_10 : decode b_mo_seedOf 10 = .ok (.goto 4, 3) := by decide +kernel
theorem d_mo_seedOf_13 : decode b_mo_seedOf 13 = .ok (.iconst 1, 1) := by decide +kernel
theorem d_mo_seedOf_14 : decode b_mo_seedOf 14 = .ok (.putfield 42, 3) := by decide +kernel
theorem d_mo_seedOf_17 : decode b_mo_seedOf 17 = .ok (.aload_n 0, 1) := by decide +kernel
theorem d_mo_seedOf_18 : decode b_mo_seedOf 18 = .ok (.getfield 42, 3) := by decide +kernel
theorem d_mo_seedOf_21 : decode b_mo_seedOf 21 = .ok (.ifCond .le 7, 3) := by decide +kernel
theorem d_mo_seedOf_24 : decode b_mo_seedOf 24 = .ok (.iconst 0, 1) := by decide +kernel
theorem d_mo_seedOf_25 : decode b_mo_seedOf 25 = .ok (.goto 9, 3) := by decide +kernel
theorem d_mo_seedOf_28 : decode b_mo_seedOf 28 = .ok (.aload_n 0, 1) := by decide +kernel
theorem d_mo_seedOf_29 : decode b_mo_seedOf 29 = .ok (.getfield 23, 3) := by decide +kernel
theorem d_mo_seedOf_32 : decode b_mo_seedOf 32 = .ok (.iload_n 1, 1) := by decide +kernel
theorem d_mo_seedOf_33 : decode b_mo_seedOf 33 = .ok (.iaload, 1) := by decide +kernel
theorem d_mo_seedOf_34 : decode b_mo_seedOf 34 = .ok (.ireturn, 1) := by decide +kernel
theorem d_mo_bitOf_0 : decode b_mo_bitOf 0 = .ok (.aload_n 0, 1) := by decide +kernel
theorem d_mo_bitOf_1 : decode b_mo_bitOf 1 = .ok (.getfield 23, 3) := by decide +kernel
theorem d_mo_bitOf_4 : decode b_mo_bitOf 4 = .ok (.iload_n 1, 1) := by decide +kernel
theorem d_mo_bitOf_5 : decode b_mo_bitOf 5 = .ok (.iaload, 1) := by decide +kernel
theorem d_mo_bitOf_6 : decode b_mo_bitOf 6 = .ok (.iconst (-1), 1) := by decide +kernel
theorem d_mo_bitOf_7 : decode b_mo_bitOf 7 = .ok (.if_icmp .eq 16, 3) := by decide +kernel
theorem d_mo_bitOf_10 : decode b_mo_bitOf 10 = .ok (.aload_n 0, 1) := by decide +kernel
theorem d_mo_bitOf_11 : decode b_mo_bitOf 11 = .ok (.aload_n 0, 1) := by decide +kernel
theorem d_mo_bitOf_12 : decode b_mo_bitOf 12 = .ok (.getfield 23, 3) := by decide +kernel
theorem d_mo_bitOf_15 : decode b_mo_bitOf 15 = .ok (.iload_n 1, 1) := by decide +kernel
theorem d_mo_bitOf_16 : decode b_mo_bitOf 16 = .ok (.iaload, 1) := by decide +kernel
theorem d_mo_bitOf_17 : decode b_mo_bitOf 17 = .ok (.iload_n 2, 1) := by decide +kernel
theorem d_mo_bitOf_18 : decode b_mo_bitOf 18 = .ok (.iload_n 3, 1) := by decide +kernel
theorem d_mo_bitOf_19 : decode b_mo_bitOf 19 = .ok (.invokevirtual 80, 3) := by decide +kernel
theorem d_mo_bitOf_22 : decode b_mo_bitOf 22 = .ok (.ireturn, 1) := by decide +kernel
theorem d_mo_bitOf_23 : decode b_mo_bitOf 23 = .ok (.aload_n 0, 1) := by decide +kernel
theorem d_mo_bitOf_24 : decode b_mo_bitOf 24 = .ok (.getfield 7, 3) := by decide +kernel
theorem d_mo_bitOf_27 : decode b_mo_bitOf 27 = .ok (.aload_n 0, 1) := by decide +kernel
theorem d_mo_bitOf_28 : decode b_mo_bitOf 28 = .ok (.iload_n 1, 1) := by decide +kernel
theorem d_mo_bitOf_29 : decode b_mo_bitOf 29 = .ok (.iload_n 2, 1) := by decide +kernel
theorem d_mo_bitOf_30 : decode b_mo_bitOf 30 = .ok (.iload_n 3, 1) := by decide +kernel
theorem d_mo_bitOf_31 : decode b_mo_bitOf 31 = .ok (.invokevirtual 56, 3) := by decide +kernel
theorem d_mo_bitOf_34 : decode b_mo_bitOf 34 = .ok (.iaload, 1) := by decide +kernel
theorem d_mo_bitOf_35 : decode b_mo_bitOf 35 = .ok (.istore 4, 2) := by decide +kernel
theorem d_mo_bitOf_37 : decode b_mo_bitOf 37 = .ok (.iload 4, 2) := by decide +kernel
theorem d_mo_bitOf_39 : decode b_mo_bitOf 39 = .ok (.iconst (-1), 1) := by decide +kernel
theorem d_mo_bitOf_40 : decode b_mo_bitOf 40 = .ok (.if_icmp .ne 11, 3) := by decide +kernel
theorem d_mo_bitOf_43 : decode b_mo_bitOf 43 = .ok (.aload_n 0, 1) := by decide +kernel
theorem d_mo_bitOf_44 : decode b_mo_bitOf 44 = .ok (.getfield 83, 3) := by decide +kernel
theorem d_mo_bitOf_47 : decode b_mo_bitOf 47 = .ok (.iconst 2, 1) := by decide +kernel
theorem d_mo_bitOf_48 : decode b_mo_bitOf 48 = .ok (.if_icmp .ge 19, 3) := by decide +kernel
theorem d_mo_bitOf_51 : decode b_mo_bitOf 51 = .ok (.iload 4, 2) := by decide +kernel
theorem d_mo_bitOf_53 : decode b_mo_bitOf 53 = .ok (.iconst (-1), 1) := by decide +kernel
theorem d_mo_bitOf_54 : decode b_mo_bitOf 54 = .ok (.if_icmp .eq 8, 3) := by decide +kernel
theorem d_mo_bitOf_57 : decode b_mo_bitOf 57 = .ok (.iload 4, 2) := by decide +kernel
theorem d_mo_bitOf_59 : decode b_mo_bitOf 59 = .ok (.goto 7, 3) := by decide +kernel
theorem d_mo_bitOf_62 : decode b_mo_bitOf 62 = .ok (.aload_n 0, 1) := by decide +kernel
theorem d_mo_bitOf_63 : decode b_mo_bitOf 63 = .ok (.getfield 83, 3) := by decide +kernel
theorem d_mo_bitOf_66 : decode b_mo_bitOf 66 = .ok (.ireturn, 1) := by decide +kernel
theorem d_mo_bitOf_67 : decode b_mo_bitOf 67 = .ok (.iload_n 3, 1) := by decide +kernel
theorem d_mo_bitOf_68 : decode b_mo_bitOf 68 = .ok (.iconst 1, 1) := by decide +kernel
theorem d_mo_bitOf_69 : decode b_mo_bitOf 69 = .ok (.isub, 1) := by decide +kernel
theorem d_mo_bitOf_70 : decode b_mo_bitOf 70 = .ok (.istore 5, 2) := by decide +kernel
theorem d_mo_bitOf_72 : decode b_mo_bitOf 72 = .ok (.iload 5, 2) := by decide +kernel
theorem d_mo_bitOf_74 : decode b_mo_bitOf 74 = .ok (.ifCond .lt 40, 3) := by decide +kernel
theorem d_mo_bitOf_77 : decode b_mo_bitOf 77 = .ok (.aload_n 0, 1) := by decide +kernel
theorem d_mo_bitOf_78 : decode b_mo_bitOf 78 = .ok (.getfield 7, 3) := by decide +kernel
theorem d_mo_bitOf_81 : decode b_mo_bitOf 81 = .ok (.aload_n 0, 1) := by decide +kernel
theorem d_mo_bitOf_82 : decode b_mo_bitOf 82 = .ok (.iload_n 1, 1) := by decide +kernel
theorem d_mo_bitOf_83 : decode b_mo_bitOf 83 = .ok (.iload_n 2, 1) := by decide +kernel
theorem d_mo_bitOf_84 : decode b_mo_bitOf 84 = .ok (.iload 5, 2) := by decide +kernel
theorem d_mo_bitOf_86 : decode b_mo_bitOf 86 = .ok (.invokevirtual 56, 3) := by decide +kernel
theorem d_mo_bitOf_89 : decode b_mo_bitOf 89 = .ok (.iaload, 1) := by decide +kernel
theorem d_mo_bitOf_90 : decode b_mo_bitOf 90 = .ok (.iconst (-1), 1) := by decide +kernel
theorem d_mo_bitOf_91 : decode b_mo_bitOf 91 = .ok (.if_icmp .eq 17, 3) := by decide +kernel
theorem d_mo_bitOf_94 : decode b_mo_bitOf 94 = .ok (.aload_n 0, 1) := by decide +kernel
theorem d_mo_bitOf_95 : decode b_mo_bitOf 95 = .ok (.getfield 7, 3) := by decide +kernel
theorem d_mo_bitOf_98 : decode b_mo_bitOf 98 = .ok (.aload_n 0, 1) := by decide +kernel
theorem d_mo_bitOf_99 : decode b_mo_bitOf 99 = .ok (.iload_n 1, 1) := by decide +kernel
theorem d_mo_bitOf_100 : decode b_mo_bitOf 100 = .ok (.iload_n 2, 1) := by decide +kernel
theorem d_mo_bitOf_101 : decode b_mo_bitOf 101 = .ok (.iload 5, 2) := by decide +kernel
theorem d_mo_bitOf_103 : decode b_mo_bitOf 103 = .ok (.invokevirtual 56, 3) := by decide +kernel
theorem d_mo_bitOf_106 : decode b_mo_bitOf 106 = .ok (.iaload, 1) := by decide +kernel
theorem d_mo_bitOf_107 : decode b_mo_bitOf 107 = .ok (.ireturn, 1) := by decide +kernel
theorem d_mo_bitOf_108 : decode b_mo_bitOf 108 = .ok (.iinc 5 (-1), 3) := by decide +kernel
theorem d_mo_bitOf_111 : decode b_mo_bitOf 111 = .ok (.goto (-39), 3) := by decide +kernel
theorem d_mo_bitOf_114 : decode b_mo_bitOf 114 = .ok (.iload_n 3, 1) := by decide +kernel
theorem d_mo_bitOf_115 : decode b_mo_bitOf 115 = .ok (.iconst 1, 1) := by decide +kernel
theorem d_mo_bitOf_116 : decode b_mo_bitOf 116 = .ok (.iadd, 1) := by decide +kernel
theorem d_mo_bitOf_117 : decode b_mo_bitOf 117 = .ok (.istore 5, 2) := by decide +kernel
theorem d_mo_bitOf_119 : decode b_mo_bitOf 119 = .ok (.iload 5, 2) := by decide +kernel
theorem d_mo_bitOf_121 : decode b_mo_bitOf 121 = .ok (.aload_n 0, 1) := by decide +kernel
theorem d_mo_bitOf_122 : decode b_mo_bitOf 122 = .ok (.getfield 36, 3) := by decide +kernel
theorem d_mo_bitOf_125 : decode b_mo_bitOf 125 = .ok (.if_icmp .ge 40, 3) := by decide +kernel
theorem d_mo_bitOf_128 : decode b_mo_bitOf 128 = .ok (.aload_n 0, 1) := by decide +kernel
theorem d_mo_bitOf_129 : decode b_mo_bitOf 129 = .ok (.getfield 7, 3) := by decide +kernel
theorem d_mo_bitOf_132 : decode b_mo_bitOf 132 = .ok (.aload_n 0, 1) := by decide +kernel
theorem d_mo_bitOf_133 : decode b_mo_bitOf 133 = .ok (.iload_n 1, 1) := by decide +kernel
theorem d_mo_bitOf_134 : decode b_mo_bitOf 134 = .ok (.iload_n 2, 1) := by decide +kernel
theorem d_mo_bitOf_135 : decode b_mo_bitOf 135 = .ok (.iload 5, 2) := by decide +kernel
theorem d_mo_bitOf_137 : decode b_mo_bitOf 137 = .ok (.invokevirtual 56, 3) := by decide +kernel
theorem d_mo_bitOf_140 : decode b_mo_bitOf 140 = .ok (.iaload, 1) := by decide +kernel
theorem d_mo_bitOf_141 : decode b_mo_bitOf 141 = .ok (.iconst (-1), 1) := by decide +kernel
theorem d_mo_bitOf_142 : decode b_mo_bitOf 142 = .ok (.if_icmp .eq 17, 3) := by decide +kernel
theorem d_mo_bitOf_145 : decode b_mo_bitOf 145 = .ok (.aload_n 0, 1) := by decide +kernel
theorem d_mo_bitOf_146 : decode b_mo_bitOf 146 = .ok (.getfield 7, 3) := by decide +kernel
theorem d_mo_bitOf_149 : decode b_mo_bitOf 149 = .ok (.aload_n 0, 1) := by decide +kernel
theorem d_mo_bitOf_150 : decode b_mo_bitOf 150 = .ok (.iload_n 1, 1) := by decide +kernel
theorem d_mo_bitOf_151 : decode b_mo_bitOf 151 = .ok (.iload_n 2, 1) := by decide +kernel
theorem d_mo_bitOf_152 : decode b_mo_bitOf 152 = .ok (.iload 5, 2) := by decide +kernel
theorem d_mo_bitOf_154 : decode b_mo_bitOf 154 = .ok (.invokevirtual 56, 3) := by decide +kernel
theorem d_mo_bitOf_157 : decode b_mo_bitOf 157 = .ok (.iaload, 1) := by decide +kernel
theorem d_mo_bitOf_158 : decode b_mo_bitOf 158 = .ok (.ireturn, 1) := by decide +kernel
theorem d_mo_bitOf_159 : decode b_mo_bitOf 159 = .ok (.iinc 5 1, 3) := by decide +kernel
theorem d_mo_bitOf_162 : decode b_mo_bitOf 162 = .ok (.goto (-43), 3) := by decide +kernel
theorem d_mo_bitOf_165 : decode b_mo_bitOf 165 = .ok (.iconst 0, 1) := by decide +kernel
theorem d_mo_bitOf_166 : decode b_mo_bitOf 166 = .ok (.ireturn, 1) := by decide +kernel
