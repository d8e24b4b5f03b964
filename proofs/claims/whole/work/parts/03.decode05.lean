theorem d_ma_init_0 : decode b_ma_init 0 = .ok (.aload_n 0, 1) := by decide +kernel
theorem d_ma_init_1 : decode b_ma_init 1 = .ok (.invokespecial 3, 3) := by decide +kernel
theorem d_ma_init_4 : decode b_ma_init 4 = .ok (.aload_n 0, 1) := by decide +kernel
theorem d_ma_init_5 : decode b_ma_init 5 = .ok (.aload_n 1, 1) := by decide +kernel
theorem d_ma_init_6 : decode b_ma_init 6 = .ok (.putfield 9, 3) := by decide +kernel
theorem d_ma_init_9 : decode b_ma_init 9 = .ok (.aload_n 0, 1) := by decide +kernel
theorem d_ma_init_10 : decode b_ma_init 10 = .ok (.bipush 48, 2) := by decide +kernel
theorem d_ma_init_12 : decode b_ma_init 12 = .ok (.newarray .long, 2) := by decide +kernel
theorem d_ma_init_14 : decode b_ma_init 14 = .ok (.putfield 15, 3) := by decide +kernel
theorem d_ma_init_17 : decode b_ma_init 17 = .ok (.aload_n 0, 1) := by decide +kernel
theorem d_ma_init_18 : decode b_ma_init 18 = .ok (.bipush 8, 2) := by decide +kernel
theorem d_ma_init_20 : decode b_ma_init 20 = .ok (.putfield 19, 3) := by decide +kernel
theorem d_ma_init_23 : decode b_ma_init 23 = .ok (.aload_n 0, 1) := by decide +kernel
theorem d_ma_init_24 : decode b_ma_init 24 = .ok (.sipush 128, 3) := by decide +kernel
theorem d_ma_init_27 : decode b_ma_init 27 = .ok (.putfield 23, 3) := by decide +kernel
theorem d_ma_init_30 : decode b_ma_init 30 = .ok (.return_, 1) := by decide +kernel
theorem d_ma_restart_0 : decode b_ma_restart 0 = .ok (.aload_n 0, 1) := by decide +kernel
theorem d_ma_restart_1 : decode b_ma_restart 1 = .ok (.iload_n 1, 1) := by decide +kernel
theorem d_ma_restart_2 : decode b_ma_restart 2 = .ok (.putfield 19, 3) := by decide +kernel
theorem d_ma_restart_5 : decode b_ma_restart 5 = .ok (.aload_n 0, 1) := by decide +kernel
theorem d_ma_restart_6 : decode b_ma_restart 6 = .ok (.iconst 1, 1) := by decide +kernel
theorem d_ma_restart_7 : decode b_ma_restart 7 = .ok (.iload_n 1, 1) := by decide +kernel
theorem d_ma_restart_8 : decode b_ma_restart 8 = .ok (.iconst 1, 1) := by decide +kernel
theorem d_ma_restart_9 : decode b_ma_restart 9 = .ok (.isub, 1) := by decide +kernel
theorem d_ma_restart_10 : decode b_ma_restart 10 = .ok (.ishl, 1) := by decide +kernel
theorem d_ma_restart_11 : decode b_ma_restart 11 = .ok (.putfield 23, 3) := by decide +kernel
theorem d_ma_restart_14 : decode b_ma_restart 14 = .ok (.return_, 1) := by decide +kernel
theorem d_ma_isTapped_0 : decode b_ma_isTapped 0 = .ok (.aload_n 0, 1) := by decide +kernel
theorem d_ma_isTapped_1 : decode b_ma_isTapped 1 = .ok (.getfield 23, 3) := by decide +kernel
theorem d_ma_isTapped_4 : decode b_ma_isTapped 4 = .ok (.iconst 1, 1) := by decide +kernel
theorem d_ma_isTapped_5 : decode b_ma_isTapped 5 = .ok (.iload_n 1, 1) := by decide +kernel
theorem d_ma_isTapped_6 : decode b_ma_isTapped 6 = .ok (.ishl, 1) := by decide +kernel
theorem d_ma_isTapped_7 : decode b_ma_isTapped 7 = .ok (.iand, 1) := by decide +kernel
theorem d_ma_isTapped_8 : decode b_ma_isTapped 8 = .ok (.ifCond .eq 7, 3) := by decide +kernel
theorem d_ma_isTapped_11 : decode b_ma_isTapped 11 = .ok (.iconst 1, 1) := by decide +kernel
theorem d_ma_isTapped_12 : decode b_ma_isTapped 12 = .ok (.goto 4, 3) := by decide +kernel
theorem d_ma_isTapped_15 : decode b_ma_isTapped 15 = .ok (.iconst 0, 1) := by decide +kernel
theorem d_ma_isTapped_16 : decode b_ma_isTapped 16 = .ok (.ireturn, 1) := by decide +kernel
theorem d_ma_turnTap_0 : decode b_ma_turnTap 0 = .ok (.aload_n 0, 1) := by decide +kernel
theorem d_ma_turnTap_1 : decode b_ma_turnTap 1 = .ok (.dup, 1) := by decide +kernel
theorem d_ma_turnTap_2 : decode b_ma_turnTap 2 = .ok (.getfield 23, 3) := by decide +kernel
theorem d_ma_turnTap_5 : decode b_ma_turnTap 5 = .ok (.iconst 1, 1) := by decide +kernel
theorem d_ma_turnTap_6 : decode b_ma_turnTap 6 = .ok (.iload_n 1, 1) := by decide +kernel
theorem d_ma_turnTap_7 : decode b_ma_turnTap 7 = .ok (.ishl, 1) := by decide +kernel
theorem d_ma_turnTap_8 : decode b_ma_turnTap 8 = .ok (.ixor, 1) := by decide +kernel
theorem d_ma_turnTap_9 : decode b_ma_turnTap 9 = .ok (.putfield 23, 3) := by decide +kernel
theorem d_ma_turnTap_12 : decode b_ma_turnTap 12 = .ok (.return_, 1) := by decide +kernel
theorem d_ma_step_0 : decode b_ma_step 0 = .ok (.iload_n 1, 1) := by decide +kernel
theorem d_ma_step_1 : decode b_ma_step 1 = .ok (.aload_n 0, 1) := by decide +kernel
theorem d_ma_step_2 : decode b_ma_step 2 = .ok (.getfield 23, 3) := by decide +kernel
theorem d_ma_step_5 : decode b_ma_step 5 = .ok (.iand, 1) := by decide +kernel
theorem d_ma_step_6 : decode b_ma_step 6 = .ok (.invokestatic 26, 3) := by decide +kernel
theorem d_ma_step_9 : decode b_ma_step 9 = .ok (.iconst 1, 1) := by decide +kernel
theorem d_ma_step_10 : decode b_ma_step 10 = .ok (.iand, 1) := by decide +kernel
theorem d_ma_step_11 : decode b_ma_step 11 = .ok (.istore_n 2, 1) := by decide +kernel
theorem d_ma_step_12 : decode b_ma_step 12 = .ok (.iload_n 1, 1) := by decide +kernel
theorem d_ma_step_13 : decode b_ma_step 13 = .ok (.iconst 1, 1) := by decide +kernel
theorem d_ma_step_14 : decode b_ma_step 14 = .ok (.ishl, 1) := by decide +kernel
theorem d_ma_step_15 : decode b_ma_step 15 = .ok (.iload_n 2, 1) := by decide +kernel
theorem d_ma_step_16 : decode b_ma_step 16 = .ok (.ior, 1) := by decide +kernel
theorem d_ma_step_17 : decode b_ma_step 17 = .ok (.iconst 1, 1) := by decide +kernel
theorem d_ma_step_18 : decode b_ma_step 18 = .ok (.aload_n 0, 1) := by decide +kernel
theorem d_ma_step_19 : decode b_ma_step 19 = .ok (.getfield 19, 3) := by decide +kernel
theorem d_ma_step_22 : decode b_ma_step 22 = .ok (.ishl, 1) := by decide +kernel
theorem d_ma_step_23 : decode b_ma_step 23 = .ok (.iconst 1, 1) := by decide +kernel
theorem d_ma_step_24 : decode b_ma_step 24 = .ok (.isub, 1) := by decide +kernel
theorem d_ma_step_25 : decode b_ma_step 25 = .ok (.iand, 1) := by decide +kernel
theorem d_ma_step_26 : decode b_ma_step 26 = .ok (.ireturn, 1) := by decide +kernel
theorem d_ma_stageAround_0 : decode b_ma_stageAround 0 = .ok (.aload_n 0, 1) := by decide +kernel
theorem d_ma_stageAround_1 : decode b_ma_stageAround 1 = .ok (.getfield 19, 3) := by decide +kernel
theorem d_ma_stageAround_4 : decode b_ma_stageAround 4 = .ok (.iconst 1, 1) := by decide +kernel
theorem d_ma_stageAround_5 : decode b_ma_stageAround 5 = .ok (.if_icmp .ge 7, 3) := by decide +kernel
theorem d_ma_stageAround_8 : decode b_ma_stageAround 8 = .ok (.iconst 0, 1) := by decide +kernel
theorem d_ma_stageAround_9 : decode b_ma_stageAround 9 = .ok (.goto 9, 3) := by decide +kernel
theorem d_ma_stageAround_12 : decode b_ma_stageAround 12 = .ok (.iload_n 1, 1) := by decide +kernel
theorem d_ma_stageAround_13 : decode b_ma_stageAround 13 = .ok (.aload_n 0, 1) := by decide +kernel
theorem d_ma_stageAround_14 : decode b_ma_stageAround 14 = .ok (.getfield 19, 3) := by decide +kernel
theorem d_ma_stageAround_17 : decode b_ma_stageAround 17 = .ok (.irem, 1) := by decide +kernel
theorem d_ma_stageAround_18 : decode b_ma_stageAround 18 = .ok (.ireturn, 1) := by decide +kernel
theorem d_ma_make_0 : decode b_ma_make 0 = .ok (.iconst 0, 1) := by decide +kernel
theorem d_ma_make_1 : decode b_ma_make 1 = .ok (.istore_n 2, 1) := by decide +kernel
theorem d_ma_make_2 : decode b_ma_make 2 = .ok (.iload_n 1, 1) := by decide +kernel
theorem d_ma_make_3 : decode b_ma_make 3 = .ok (.istore_n 3, 1) := by decide +kernel
theorem d_ma_make_4 : decode b_ma_make 4 = .ok (.iconst 0, 1) := by decide +kernel
theorem d_ma_make_5 : decode b_ma_make 5 = .ok (.istore 4, 2) := by decide +kernel
theorem d_ma_make_7 : decode b_ma_make 7 = .ok (.iload 4, 2) := by decide +kernel
theorem d_ma_make_9 : decode b_ma_make 9 = .ok (.aload_n 0, 1) := by decide +kernel
theorem d_ma_make_10 : decode b_ma_make 10 = .ok (.getfield 9, 3) := by decide +kernel
theorem d_ma_make_13 : decode b_ma_make 13 = .ok (.getfield 32, 3) := by decide +kernel
theorem d_ma_make_16 : decode b_ma_make 16 = .ok (.if_icmp .ge 73, 3) := by decide +kernel
theorem d_ma_make_19 : decode b_ma_make 19 = .ok (.iconst 0, 1) := by decide +kernel
theorem d_ma_make_20 : decode b_ma_make 20 = .ok (.istore 5, 2) := by decide +kernel
theorem d_ma_make_22 : decode b_ma_make 22 = .ok (.iload 5, 2) := by decide +kernel
theorem d_ma_make_24 : decode b_ma_make 24 = .ok (.aload_n 0, 1) := by decide +kernel
theorem d_ma_make_25 : decode b_ma_make 25 = .ok (.getfield 9, 3) := by decide +kernel
theorem d_ma_make_28 : decode b_ma_make 28 = .ok (.getfield 37, 3) := by decide +kernel
theorem d_ma_make_31 : decode b_ma_make 31 = .ok (.if_icmp .ge 46, 3) := by decide +kernel
theorem d_ma_make_34 : decode b_ma_make 34 = .ok (.iload_n 3, 1) := by decide +kernel
theorem d_ma_make_35 : decode b_ma_make 35 = .ok (.iconst 1, 1) := by decide +kernel
theorem d_ma_make_36 : decode b_ma_make 36 = .ok (.aload_n 0, 1) := by decide +kernel
theorem d_ma_make_37 : decode b_ma_make 37 = .ok (.iconst 5, 1) := by decide +kernel
theorem d_ma_make_38 : decode b_ma_make 38 = .ok (.iload 5, 2) := by decide +kernel
theorem d_ma_make_40 : decode b_ma_make 40 = .ok (.imul, 1) := by decide +kernel
theorem d_ma_make_41 : decode b_ma_make 41 = .ok (.iconst 1, 1) := by decide +kernel
theorem d_ma_make_42 : decode b_ma_make 42 = .ok (.iadd, 1) := by decide +kernel
theorem d_ma_make_43 : decode b_ma_make 43 = .ok (.invokevirtual 40, 3) := by decide +kernel
theorem d_ma_make_46 : decode b_ma_make 46 = .ok (.ishl, 1) := by decide +kernel
theorem d_ma_make_47 : decode b_ma_make 47 = .ok (.iand, 1) := by decide +kernel
theorem d_ma_make_48 : decode b_ma_make 48 = .ok (.ifCond .eq 23, 3) := by decide +kernel
theorem d_ma_make_51 : decode b_ma_make 51 = .ok (.iload_n 2, 1) := by decide +kernel
theorem d_ma_make_52 : decode b_ma_make 52 = .ok (.iload 5, 2) := by decide +kernel
theorem d_ma_make_54 : decode b_ma_make 54 = .ok (.aload_n 0, 1) := by decide +kernel
theorem d_ma_make_55 : decode b_ma_make 55 = .ok (.getfield 9, 3) := by decide +kernel
theorem d_ma_make_58 : decode b_ma_make 58 = .ok (.getfield 32, 3) := by decide +kernel
theorem d_ma_make_61 : decode b_ma_make 61 = .ok (.iconst 1, 1) := by decide +kernel
theorem d_ma_make_62 : decode b_ma_make 62 = .ok (.isub, 1) := by decide +kernel
theorem d_ma_make_63 : decode b_ma_make 63 = .ok (.iload 4, 2) := by decide +kernel
theorem d_ma_make_65 : decode b_ma_make 65 = .ok (.isub, 1) := by decide +kernel
theorem d_ma_make_66 : decode b_ma_make 66 = .ok (.invokestatic 43, 3) := by decide +kernel
theorem d_ma_make_69 : decode b_ma_make 69 = .ok (.ior, 1) := by decide +kernel
theorem d_ma_make_70 : decode b_ma_make 70 = .ok (.istore_n 2, 1) := by decide +kernel
theorem d_ma_make_71 : decode b_ma_make 71 = .ok (.iinc 5 1, 3) := by decide +kernel
theorem d_ma_make_74 : decode b_ma_make 74 = .ok (.goto (-52), 3) := by decide +kernel
theorem d_ma_make_77 : decode b_ma_make 77 = .ok (.aload_n 0, 1) := by decide +kernel
theorem d_ma_make_78 : decode b_ma_make 78 = .ok (.iload_n 3, 1) := by decide +kernel
theorem d_ma_make_79 : decode b_ma_make 79 = .ok (.invokevirtual 47, 3) := by decide +kernel
theorem d_ma_make_82 : decode b_ma_make 82 = .ok (.istore_n 3, 1) := by decide +kernel
theorem d_ma_make_83 : decode b_ma_make 83 = .ok (.iinc 4 1, 3) := by decide +kernel
theorem d_ma_make_86 : decode b_ma_make 86 = .ok (.goto (-79), 3) := by decide +kernel
theorem d_ma_make_89 : decode b_ma_make 89 = .ok (.iload_n 2, 1) := by decide +kernel
theorem d_ma_make_90 : decode b_ma_make 90 = .ok (.ireturn, 1) := by decide +kernel
theorem d_ma_takeIn_0 : decode b_ma_takeIn 0 = .ok (.iload_n 1, 1) := by decide +kernel
theorem d_ma_takeIn_1 : decode b_ma_takeIn 1 = .ok (.istore_n 3, 1) := by decide +kernel
theorem d_ma_takeIn_2 : decode b_ma_takeIn 2 = .ok (.iconst 0, 1) := by decide +kernel
theorem d_ma_takeIn_3 : decode b_ma_takeIn 3 = .ok (.istore 4, 2) := by decide +kernel
theorem d_ma_takeIn_5 : decode b_ma_takeIn 5 = .ok (.iload 4, 2) := by decide +kernel
theorem d_ma_takeIn_7 : decode b_ma_takeIn 7 = .ok (.aload_n 0, 1) := by decide +kernel
theorem d_ma_takeIn_8 : decode b_ma_takeIn 8 = .ok (.getfield 9, 3) := by decide +kernel
theorem d_ma_takeIn_11 : decode b_ma_takeIn 11 = .ok (.getfield 32, 3) := by decide +kernel
theorem d_ma_takeIn_14 : decode b_ma_takeIn 14 = .ok (.if_icmp .ge 69, 3) := by decide +kernel
theorem d_ma_takeIn_17 : decode b_ma_takeIn 17 = .ok (.aload_n 0, 1) := by decide +kernel
theorem d_ma_takeIn_18 : decode b_ma_takeIn 18 = .ok (.iload_n 3, 1) := by decide +kernel
theorem d_ma_takeIn_19 : decode b_ma_takeIn 19 = .ok (.invokevirtual 47, 3) := by decide +kernel
theorem d_ma_takeIn_22 : decode b_ma_takeIn 22 = .ok (.istore_n 3, 1) := by decide +kernel
theorem d_ma_takeIn_23 : decode b_ma_takeIn 23 = .ok (.iconst 0, 1) := by decide +kernel
theorem d_ma_takeIn_24 : decode b_ma_takeIn 24 = .ok (.istore 5, 2) := by decide +kernel
theorem d_ma_takeIn_26 : decode b_ma_takeIn 26 = .ok (.iload 5, 2) := by decide +kernel
theorem d_ma_takeIn_28 : decode b_ma_takeIn 28 = .ok (.aload_n 0, 1) := by decide +kernel
theorem d_ma_takeIn_29 : decode b_ma_takeIn 29 = .ok (.getfield 9, 3) := by decide +kernel
theorem d_ma_takeIn_32 : decode b_ma_takeIn 32 = .ok (.getfield 37, 3) := by decide +kernel
theorem d_ma_takeIn_35 : decode b_ma_takeIn 35 = .ok (.if_icmp .ge 42, 3) := by decide +kernel
theorem d_ma_takeIn_38 : decode b_ma_takeIn 38 = .ok (.iload_n 2, 1) := by decide +kernel
theorem d_ma_takeIn_39 : decode b_ma_takeIn 39 = .ok (.iload 5, 2) := by decide +kernel
theorem d_ma_takeIn_41 : decode b_ma_takeIn 41 = .ok (.aload_n 0, 1) := by decide +kernel
theorem d_ma_takeIn_42 : decode b_ma_takeIn 42 = .ok (.getfield 9, 3) := by decide +kernel
theorem d_ma_takeIn_45 : decode b_ma_takeIn 45 = .ok (.getfield 32, 3) := by decide +kernel
theorem d_ma_takeIn_48 : decode b_ma_takeIn 48 = .ok (.iconst 1, 1) := by decide +kernel
theorem d_ma_takeIn_49 : decode b_ma_takeIn 49 = .ok (.isub, 1) := by decide +kernel
theorem d_ma_takeIn_50 : decode b_ma_takeIn 50 = .ok (.iload 4, 2) := by decide +kernel
theorem d_ma_takeIn_52 : decode b_ma_takeIn 52 = .ok (.isub, 1) := by decide +kernel
theorem d_ma_takeIn_53 : decode b_ma_takeIn 53 = .ok (.invokestatic 43, 3) := by decide +kernel
theorem d_ma_takeIn_56 : decode b_ma_takeIn 56 = .ok (.iand, 1) := by decide +kernel
theorem d_ma_takeIn_57 : decode b_ma_takeIn 57 = .ok (.ifCond .eq 14, 3) := by decide +kernel
theorem d_ma_takeIn_60 : decode b_ma_takeIn 60 = .ok (.iload_n 3, 1) := by decide +kernel
theorem d_ma_takeIn_61 : decode b_ma_takeIn 61 = .ok (.iconst 1, 1) := by decide +kernel
theorem d_ma_takeIn_62 : decode b_ma_takeIn 62 = .ok (.aload_n 0, 1) := by decide +kernel
theorem d_ma_takeIn_63 : decode b_ma_takeIn 63 = .ok (.iload 5, 2) := by decide +kernel
theorem d_ma_takeIn_65 : decode b_ma_takeIn 65 = .ok (.invokevirtual 40, 3) := by decide +kernel
theorem d_ma_takeIn_68 : decode b_ma_takeIn 68 = .ok (.ishl, 1) := by decide +kernel
theorem d_ma_takeIn_69 : decode b_ma_takeIn 69 = .ok (.ixor, 1) := by decide +kernel
theorem d_ma_takeIn_70 : decode b_ma_takeIn 70 = .ok (.istore_n 3, 1) := by decide +kernel
theorem d_ma_takeIn_71 : decode b_ma_takeIn 71 = .ok (.iinc 5 1, 3) := by decide +kernel
theorem d_ma_takeIn_74 : decode b_ma_takeIn 74 = .ok (.goto (-48), 3) := by decide +kernel
theorem d_ma_takeIn_77 : decode b_ma_takeIn 77 = .ok (.iinc 4 1, 3) := by decide +kernel
theorem d_ma_takeIn_80 : decode b_ma_takeIn 80 = .ok (.goto (-75), 3) := by decide +kernel
theorem d_ma_takeIn_83 : decode b_ma_takeIn 83 = .ok (.iload_n 3, 1) := by decide +kernel
theorem d_ma_takeIn_84 : decode b_ma_takeIn 84 = .ok (.ireturn, 1) := by decide +kernel
theorem d_ma_hasLongestCycle_0 : decode b_ma_hasLongestCycle 0 = .ok (.iconst 1, 1) := by decide +kernel
theorem d_ma_hasLongestCycle_1 : decode b_ma_hasLongestCycle 1 = .ok (.aload_n 0, 1) := by decide +kernel
theorem d_ma_hasLongestCycle_2 : decode b_ma_hasLongestCycle 2 = .ok (.getfield 19, 3) := by decide +kernel
theorem d_ma_hasLongestCycle_5 : decode b_ma_hasLongestCycle 5 = .ok (.ishl, 1) := by decide +kernel
theorem d_ma_hasLongestCycle_6 : decode b_ma_hasLongestCycle 6 = .ok (.iconst 1, 1) := by decide +kernel
theorem d_ma_hasLongestCycle_7 : decode b_ma_hasLongestCycle 7 = .ok (.isub, 1) := by decide +kernel
theorem d_ma_hasLongestCycle_8 : decode b_ma_hasLongestCycle 8 = .ok (.istore_n 1, 1) := by decide +kernel
theorem d_ma_hasLongestCycle_9 : decode b_ma_hasLongestCycle 9 = .ok (.iconst 1, 1) := by decide +kernel
theorem d_ma_hasLongestCycle_10 : decode b_ma_hasLongestCycle 10 = .ok (.istore_n 2, 1) := by decide +kernel
theorem d_ma_hasLongestCycle_11 : decode b_ma_hasLongestCycle 11 = .ok (.iconst 1, 1) := by decide +kernel
theorem d_ma_hasLongestCycle_12 : decode b_ma_hasLongestCycle 12 = .ok (.istore_n 3, 1) := by decide +kernel
theorem d_ma_hasLongestCycle_13 : decode b_ma_hasLongestCycle 13 = .ok (.iload_n 3, 1) := by decide +kernel
theorem d_ma_hasLongestCycle_14 : decode b_ma_hasLongestCycle 14 = .ok (.iload_n 1, 1) := by decide +kernel
theorem d_ma_hasLongestCycle_15 : decode b_ma_hasLongestCycle 15 = .ok (.if_icmp .ge 22, 3) := by decide +kernel
theorem d_ma_hasLongestCycle_18 : decode b_ma_hasLongestCycle 18 = .ok (.aload_n 0, 1) := by decide +kernel
theorem d_ma_hasLongestCycle_19 : decode b_ma_hasLongestCycle 19 = .ok (.iload_n 2, 1) := by decide +kernel
theorem d_ma_hasLongestCycle_20 : decode b_ma_hasLongestCycle 20 = .ok (.invokevirtual 47, 3) := by decide +kernel
theorem d_ma_hasLongestCycle_23 : decode b_ma_hasLongestCycle 23 = .ok (.istore_n 2, 1) := by decide +kernel
theorem d_ma_hasLongestCycle_24 : decode b_ma_hasLongestCycle 24 = .ok (.iload_n 2, 1) := by decide +kernel
theorem d_ma_hasLongestCycle_25 : decode b_ma_hasLongestCycle 25 = .ok (.iconst 1, 1) := by decide +kernel
theorem d_ma_hasLongestCycle_26 : decode b_ma_hasLongestCycle 26 = .ok (.if_icmp .ne 5, 3) := by decide +kernel
theorem d_ma_hasLongestCycle_29 : decode b_ma_hasLongestCycle 29 = .ok (.iconst 0, 1) := by decide +kernel
theorem d_ma_hasLongestCycle_30 : decode b_ma_hasLongestCycle 30 = .ok (.ireturn, 1) := by decide +kernel
theorem d_ma_hasLongestCycle_31 : decode b_ma_hasLongestCycle 31 = .ok (.iinc 3 1, 3) := by decide +kernel
theorem d_ma_hasLongestCycle_34 : decode b_ma_hasLongestCycle 34 = .ok (.goto (-21), 3) := by decide +kernel
theorem d_ma_hasLongestCycle_37 : decode b_ma_hasLongestCycle 37 = .ok (.aload_n 0, 1) := by decide +kernel
theorem d_ma_hasLongestCycle_38 : decode b_ma_hasLongestCycle 38 = .ok (.iload_n 2, 1) := by decide +kernel
theorem d_ma_hasLongestCycle_39 : decode b_ma_hasLongestCycle 39 = .ok (.invokevirtual 47, 3) := by decide +kernel
theorem d_ma_hasLongestCycle_42 : decode b_ma_hasLongestCycle 42 = .ok (.iconst 1, 1) := by decide +kernel
theorem d_ma_hasLongestCycle_43 : decode b_ma_hasLongestCycle 43 = .ok (.if_icmp .ne 7, 3) := by decide +kernel
theorem d_ma_hasLongestCycle_46 : decode b_ma_hasLongestCycle 46 = .ok (.iconst 1, 1) := by decide +kernel
theorem d_ma_hasLongestCycle_47 : decode b_ma_hasLongestCycle 47 = .ok (.goto 4, 3) := by decide +kernel
theorem d_ma_hasLongestCycle_50 : decode b_ma_hasLongestCycle 50 = .ok (.iconst 0, 1) := by decide +kernel
theorem d_ma_hasLongestCycle_51 : decode b_ma_hasLongestCycle 51 = .ok (.ireturn, 1) := by decide +kernel
theorem d_ma_leastSeed_0 : decode b_ma_leastSeed 0 = .ok (.iconst 0, 1) := by decide +kernel
theorem d_ma_leastSeed_1 : decode b_ma_leastSeed 1 = .ok (.istore_n 3, 1) := by decide +kernel
theorem d_ma_leastSeed_2 : decode b_ma_leastSeed 2 = .ok (.iload_n 3, 1) := by decide +kernel
theorem d_ma_leastSeed_3 : decode b_ma_leastSeed 3 = .ok (.aload_n 0, 1) := by decide +kernel
theorem d_ma_leastSeed_4 : decode b_ma_leastSeed 4 = .ok (.getfield 15, 3) := by decide +kernel
theorem d_ma_leastSeed_7 : decode b_ma_leastSeed 7 = .ok (.arraylength, 1) := by decide +kernel
theorem d_ma_leastSeed_8 : decode b_ma_leastSeed 8 = .ok (.if_icmp .ge 16, 3) := by decide +kernel
theorem d_ma_leastSeed_11 : decode b_ma_leastSeed 11 = .ok (.aload_n 0, 1) := by decide +kernel
theorem d_ma_leastSeed_12 : decode b_ma_leastSeed 12 = .ok (.getfield 15, 3) := by decide +kernel
theorem d_ma_leastSeed_15 : decode b_ma_leastSeed 15 = .ok (.iload_n 3, 1) := by decide +kernel
theorem d_ma_leastSeed_16 : decode b_ma_leastSeed 16 = .ok (.lconst 0, 1) := by decide +kernel
theorem d_ma_leastSeed_17 : decode b_ma_leastSeed 17 = .ok (.lastore, 1) := by decide +kernel
theorem d_ma_leastSeed_18 : decode b_ma_leastSeed 18 = .ok (.iinc 3 1, 3) := by decide +kernel
theorem d_ma_leastSeed_21 : decode b_ma_leastSeed 21 = .ok (.goto (-19), 3) := by decide +kernel
theorem d_ma_leastSeed_24 : decode b_ma_leastSeed 24 = .ok (.iconst 0, 1) := by decide +kernel
theorem d_ma_leastSeed_25 : decode b_ma_leastSeed 25 = .ok (.istore_n 3, 1) := by decide +kernel
theorem d_ma_leastSeed_26 : decode b_ma_leastSeed 26 = .ok (.iload_n 3, 1) := by decide +kernel
theorem d_ma_leastSeed_27 : decode b_ma_leastSeed 27 = .ok (.aload_n 0, 1) := by decide +kernel
theorem d_ma_leastSeed_28 : decode b_ma_leastSeed 28 = .ok (.getfield 19, 3) := by decide +kernel
theorem d_ma_leastSeed_31 : decode b_ma_leastSeed 31 = .ok (.if_icmp .ge 32, 3) := by decide +kernel
theorem d_ma_leastSeed_34 : decode b_ma_leastSeed 34 = .ok (.aload_n 0, 1) := by decide +kernel
theorem d_ma_leastSeed_35 : decode b_ma_leastSeed 35 = .ok (.aload_n 0, 1) := by decide +kernel
theorem d_ma_leastSeed_36 : decode b_ma_leastSeed 36 = .ok (.aload_n 0, 1) := by decide +kernel
theorem d_ma_leastSeed_37 : decode b_ma_leastSeed 37 = .ok (.iconst 1, 1) := by decide +kernel
theorem d_ma_leastSeed_38 : decode b_ma_leastSeed 38 = .ok (.iload_n 3, 1) := by decide +kernel
theorem d_ma_leastSeed_39 : decode b_ma_leastSeed 39 = .ok (.ishl, 1) := by decide +kernel
theorem d_ma_leastSeed_40 : decode b_ma_leastSeed 40 = .ok (.invokevirtual 50, 3) := by decide +kernel
theorem d_ma_leastSeed_43 : decode b_ma_leastSeed 43 = .ok (.iload_n 1, 1) := by decide +kernel
theorem d_ma_leastSeed_44 : decode b_ma_leastSeed 44 = .ok (.iand, 1) := by decide +kernel
theorem d_ma_leastSeed_45 : decode b_ma_leastSeed 45 = .ok (.iconst 1, 1) := by decide +kernel
theorem d_ma_leastSeed_46 : decode b_ma_leastSeed 46 = .ok (.iload_n 3, 1) := by decide +kernel
theorem d_ma_leastSeed_47 : decode b_ma_leastSeed 47 = .ok (.ishl, 1) := by decide +kernel
theorem d_ma_leastSeed_48 : decode b_ma_leastSeed 48 = .ok (.invokestatic 53, 3) := by decide +kernel
theorem d_ma_leastSeed_51 : decode b_ma_leastSeed 51 = .ok (.invokevirtual 57, 3) := by decide +kernel
theorem d_ma_leastSeed_54 : decode b_ma_leastSeed 54 = .ok (.invokevirtual 61, 3) := by decide +kernel
theorem d_ma_leastSeed_57 : decode b_ma_leastSeed 57 = .ok (.iinc 3 1, 3) := by decide +kernel
theorem d_ma_leastSeed_60 : decode b_ma_leastSeed 60 = .ok (.goto (-34), 3) := by decide +kernel
theorem d_ma_leastSeed_63 : decode b_ma_leastSeed 63 = .ok (.aload_n 0, 1) := by decide +kernel
theorem d_ma_leastSeed_64 : decode b_ma_leastSeed 64 = .ok (.iload_n 2, 1) := by decide +kernel
theorem d_ma_leastSeed_65 : decode b_ma_leastSeed 65 = .ok (.iconst 0, 1) := by decide +kernel
theorem d_ma_leastSeed_66 : decode b_ma_leastSeed 66 = .ok (.invokestatic 53, 3) := by decide +kernel
theorem d_ma_leastSeed_69 : decode b_ma_leastSeed 69 = .ok (.invokevirtual 57, 3) := by decide +kernel
theorem d_ma_leastSeed_72 : decode b_ma_leastSeed 72 = .ok (.lstore_n 3, 1) := by decide +kernel
theorem d_ma_leastSeed_73 : decode b_ma_leastSeed 73 = .ok (.lload_n 3, 1) := by decide +kernel
theorem d_ma_leastSeed_74 : decode b_ma_leastSeed 74 = .ok (.invokestatic 65, 3) := by decide +kernel
theorem d_ma_leastSeed_77 : decode b_ma_leastSeed 77 = .ok (.lconst 0, 1) := by decide +kernel
theorem d_ma_leastSeed_78 : decode b_ma_leastSeed 78 = .ok (.lcmp, 1) := by decide +kernel
theorem d_ma_leastSeed_79 : decode b_ma_leastSeed 79 = .ok (.ifCond .eq 7, 3) := by decide +kernel
theorem d_ma_leastSeed_82 : decode b_ma_leastSeed 82 = .ok (.iconst (-1), 1) := by decide +kernel
theorem d_ma_leastSeed_83 : decode b_ma_leastSeed 83 = .ok (.goto 5, 3) := by decide +kernel
theorem d_ma_leastSeed_86 : decode b_ma_leastSeed 86 = .ok (.lload_n 3, 1) := by decide +kernel
theorem d_ma_leastSeed_87 : decode b_ma_leastSeed 87 = .ok (.l2i, 1) := by decide +kernel
theorem d_ma_leastSeed_88 : decode b_ma_leastSeed 88 = .ok (.ireturn, 1) := by decide +kernel
theorem d_ma_row_0 : decode b_ma_row 0 = .ok (.iload_n 0, 1) := by decide +kernel
theorem d_ma_row_1 : decode b_ma_row 1 = .ok (.i2l, 1) := by decide +kernel
theorem d_ma_row_2 : decode b_ma_row 2 = .ok (.bipush 16, 2) := by decide +kernel
theorem d_ma_row_4 : decode b_ma_row 4 = .ok (.lshl, 1) := by decide +kernel
theorem d_ma_row_5 : decode b_ma_row 5 = .ok (.iload_n 1, 1) := by decide +kernel
theorem d_ma_row_6 : decode b_ma_row 6 = .ok (.i2l, 1) := by decide +kernel
theorem d_ma_row_7 : decode b_ma_row 7 = .ok (.lor, 1) := by decide +kernel
theorem d_ma_row_8 : decode b_ma_row 8 = .ok (.lreturn, 1) := by decide +kernel
theorem d_ma_cellsOf_0 : decode b_ma_cellsOf 0 = .ok (.lload_n 0, 1) := by decide +kernel
theorem d_ma_cellsOf_1 : decode b_ma_cellsOf 1 = .ok (.bipush 16, 2) := by decide +kernel
theorem d_ma_cellsOf_3 : decode b_ma_cellsOf 3 = .ok (.lshr, 1) := by decide +kernel
theorem d_ma_cellsOf_4 : decode b_ma_cellsOf 4 = .ok (.lreturn, 1) := by decide +kernel
theorem d_ma_reduced_0 : decode b_ma_reduced 0 = .ok (.lload_n 1, 1) := by decide +kernel
theorem d_ma_reduced_1 : decode b_ma_reduced 1 = .ok (.lstore_n 3, 1) := by decide +kernel
theorem d_ma_reduced_2 : decode b_ma_reduced 2 = .ok (.aload_n 0, 1) := by decide +kernel
theorem d_ma_reduced_3 : decode b_ma_reduced 3 = .ok (.getfield 15, 3) := by decide +kernel
theorem d_ma_reduced_6 : decode b_ma_reduced 6 = .ok (.arraylength, 1) := by decide +kernel
theorem d_ma_reduced_7 : decode b_ma_reduced 7 = .ok (.iconst 1, 1) := by decide +kernel
theorem d_ma_reduced_8 : decode b_ma_reduced 8 = .ok (.isub, 1) := by decide +kernel
theorem d_ma_reduced_9 : decode b_ma_reduced 9 = .ok (.istore 5, 2) := by decide +kernel
theorem d_ma_reduced_11 : decode b_ma_reduced 11 = .ok (.iload 5, 2) := by decide +kernel
theorem d_ma_reduced_13 : decode b_ma_reduced 13 = .ok (.bipush 16, 2) := by decide +kernel
theorem d_ma_reduced_15 : decode b_ma_reduced 15 = .ok (.if_icmp .lt 30, 3) := by decide +kernel
theorem d_ma_reduced_18 : decode b_ma_reduced 18 = .ok (.lload_n 3, 1) := by decide +kernel
theorem d_ma_reduced_19 : decode b_ma_reduced 19 = .ok (.iload 5, 2) := by decide +kernel
theorem d_ma_reduced_21 : decode b_ma_reduced 21 = .ok (.lshr, 1) := by decide +kernel
theorem d_ma_reduced_22 : decode b_ma_reduced 22 = .ok (.lconst 1, 1) := by decide +kernel
theorem d_ma_reduced_23 : decode b_ma_reduced 23 = .ok (.land, 1) := by decide +kernel
theorem d_ma_reduced_24 : decode b_ma_reduced 24 = .ok (.lconst 0, 1) := by decide +kernel
theorem d_ma_reduced_25 : decode b_ma_reduced 25 = .ok (.lcmp, 1) := by decide +kernel
theorem d_ma_reduced_26 : decode b_ma_reduced 26 = .ok (.ifCond .eq 13, 3) := by decide +kernel
theorem d_ma_reduced_29 : decode b_ma_reduced 29 = .ok (.lload_n 3, 1) := by decide +kernel
theorem d_ma_reduced_30 : decode b_ma_reduced 30 = .ok (.aload_n 0, 1) := by decide +kernel
theorem d_ma_reduced_31 : decode b_ma_reduced 31 = .ok (.getfield 15, 3) := by decide +kernel
theorem d_ma_reduced_34 : decode b_ma_reduced 34 = .ok (.iload 5, 2) := by decide +kernel
theorem d_ma_reduced_36 : decode b_ma_reduced 36 = .ok (.laload, 1) := by decide +kernel
theorem d_ma_reduced_37 : decode b_ma_reduced 37 = .ok (.lxor, 1) := by decide +kernel
theorem d_ma_reduced_38 : decode b_ma_reduced 38 = .ok (.lstore_n 3, 1) := by decide +kernel
theorem d_ma_reduced_39 : decode b_ma_reduced 39 = .ok (.iinc 5 (-1), 3) := by decide +kernel
theorem d_ma_reduced_42 : decode b_ma_reduced 42 = .ok (.goto (-31), 3) := by decide +kernel
theorem d_ma_reduced_45 : decode b_ma_reduced 45 = .ok (.lload_n 3, 1) := by decide +kernel
theorem d_ma_reduced_46 : decode b_ma_reduced 46 = .ok (.lreturn, 1) := by decide +kernel
theorem d_ma_keep_0 : decode b_ma_keep 0 = .ok (.aload_n 0, 1) := by decide +kernel
theorem d_ma_keep_1 : decode b_ma_keep 1 = .ok (.getfield 15, 3) := by decide +kernel
theorem d_ma_keep_4 : decode b_ma_keep 4 = .ok (.arraylength, 1) := by decide +kernel
theorem d_ma_keep_5 : decode b_ma_keep 5 = .ok (.iconst 1, 1) := by decide +kernel
theorem d_ma_keep_6 : decode b_ma_keep 6 = .ok (.isub, 1) := by decide +kernel
theorem d_ma_keep_7 : decode b_ma_keep 7 = .ok (.istore_n 3, 1) := by decide +kernel
theorem d_ma_keep_8 : decode b_ma_keep 8 = .ok (.iload_n 3, 1) := by decide +kernel
theorem d_ma_keep_9 : decode b_ma_keep 9 = .ok (.bipush 16, 2) := by decide +kernel
theorem d_ma_keep_11 : decode b_ma_keep 11 = .ok (.if_icmp .lt 27, 3) := by decide +kernel
theorem d_ma_keep_14 : decode b_ma_keep 14 = .ok (.lload_n 1, 1) := by decide +kernel
theorem d_ma_keep_15 : decode b_ma_keep 15 = .ok (.iload_n 3, 1) := by decide +kernel
theorem d_ma_keep_16 : decode b_ma_keep 16 = .ok (.lshr, 1) := by decide +kernel
theorem d_ma_keep_17 : decode b_ma_keep 17 = .ok (.lconst 1, 1) := by decide +kernel
theorem d_ma_keep_18 : decode b_ma_keep 18 = .ok (.land, 1) := by decide +kernel
theorem d_ma_keep_19 : decode b_ma_keep 19 = .ok (.lconst 0, 1) := by decide +kernel
theorem d_ma_keep_20 : decode b_ma_keep 20 = .ok (.lcmp, 1) := by decide +kernel
theorem d_ma_keep_21 : decode b_ma_keep 21 = .ok (.ifCond .eq 11, 3) := by decide +kernel
theorem d_ma_keep_24 : decode b_ma_keep 24 = .ok (.aload_n 0, 1) := by decide +kernel
theorem d_ma_keep_25 : decode b_ma_keep 25 = .ok (.getfield 15, 3) := by decide +kernel
theorem d_ma_keep_28 : decode b_ma_keep 28 = .ok (.iload_n 3, 1) := by decide +kernel
theorem d_ma_keep_29 : decode b_ma_keep 29 = .ok (.lload_n 1, 1) := by decide +kernel
theorem d_ma_keep_30 : decode b_ma_keep 30 = .ok (.lastore, 1) := by decide +kernel
theorem d_ma_keep_31 : decode b_ma_keep 31 = .ok (.return_, 1) := by decide +kernel
theorem d_ma_keep_32 : decode b_ma_keep 32 = .ok (.iinc 3 (-1), 3) := by decide +kernel
theorem d_ma_keep_35 : decode b_ma_keep 35 = .ok (.goto (-27), 3) := by decide +kernel
theorem d_ma_keep_38 : decode b_ma_keep 38 = .ok (.return_, 1) := by decide +kernel
theorem d_pt_init_0 : decode b_pt_init 0 = .ok (.aload_n 0, 1) := by decide +kernel
theorem d_pt_init_1 : decode b_pt_init 1 = .ok (.invokespecial 3, 3) := by decide +kernel
theorem d_pt_init_4 : decode b_pt_init 4 = .ok (.aload_n 0, 1) := by decide +kernel
theorem d_pt_init_5 : decode b_pt_init 5 = .ok (.iconst 0, 1) := by decide +kernel
theorem d_pt_init_6 : decode b_pt_init 6 = .ok (.putfield 9, 3) := by decide +kernel
theorem d_pt_init_9 : decode b_pt_init 9 = .ok (.aload_n 0, 1) := by decide +kernel
theorem d_pt_init_10 : decode b_pt_init 10 = .ok (.iconst 0, 1) := by decide +kernel
theorem d_pt_init_11 : decode b_pt_init 11 = .ok (.putfield 15, 3) := by decide +kernel
theorem d_pt_init_14 : decode b_pt_init 14 = .ok (.aload_n 0, 1) := by decide +kernel
theorem d_pt_init_15 : decode b_pt_init 15 = .ok (.iconst 0, 1) := by decide +kernel
theorem d_pt_init_16 : decode b_pt_init 16 = .ok (.putfield 18, 3) := by decide +kernel
theorem d_pt_init_19 : decode b_pt_init 19 = .ok (.aload_n 0, 1) := by decide +kernel
theorem d_pt_init_20 : decode b_pt_init 20 = .ok (.iconst 0, 1) := by decide +kernel
theorem d_pt_init_21 : decode b_pt_init 21 = .ok (.putfield 21, 3) := by decide +kernel
theorem d_pt_init_24 : decode b_pt_init 24 = .ok (.aload_n 0, 1) := by decide +kernel
theorem d_pt_init_25 : decode b_pt_init 25 = .ok (.iconst (-1), 1) := by decide +kernel
theorem d_pt_init_26 : decode b_pt_init 26 = .ok (.putfield 24, 3) := by decide +kernel
theorem d_pt_init_29 : decode b_pt_init 29 = .ok (.aload_n 0, 1) := by decide +kernel
theorem d_pt_init_30 : decode b_pt_init 30 = .ok (.iconst 0, 1) := by decide +kernel
theorem d_pt_init_31 : decode b_pt_init 31 = .ok (.putfield 27, 3) := by decide +kernel
theorem d_pt_init_34 : decode b_pt_init 34 = .ok (.return_, 1) := by decide +kernel
theorem d_pt_careAt_0 : decode b_pt_careAt 0 = .ok (.aload_n 0, 1) := by decide +kernel
theorem d_pt_careAt_1 : decode b_pt_careAt 1 = .ok (.getfield 9, 3) := by decide +kernel
theorem d_pt_careAt_4 : decode b_pt_careAt 4 = .ok (.iload_n 1, 1) := by decide +kernel
theorem d_pt_careAt_5 : decode b_pt_careAt 5 = .ok (.iand, 1) := by decide +kernel
theorem d_pt_careAt_6 : decode b_pt_careAt 6 = .ok (.ifCond .ne 5, 3) := by decide +kernel
theorem d_pt_careAt_9 : decode b_pt_careAt 9 = .ok (.iconst (-1), 1) := by decide +kernel
theorem d_pt_careAt_10 : decode b_pt_careAt 10 = .ok (.ireturn, 1) := by decide +kernel
theorem d_pt_careAt_11 : decode b_pt_careAt 11 = .ok (.aload_n 0, 1) := by decide +kernel
theorem d_pt_careAt_12 : decode b_pt_careAt 12 = .ok (.getfield 15, 3) := by decide +kernel
theorem d_pt_careAt_15 : decode b_pt_careAt 15 = .ok (.iload_n 1, 1) := by decide +kernel
theorem d_pt_careAt_16 : decode b_pt_careAt 16 = .ok (.iand, 1) := by decide +kernel
theorem d_pt_careAt_17 : decode b_pt_careAt 17 = .ok (.ifCond .eq 7, 3) := by decide +kernel
theorem d_pt_careAt_20 : decode b_pt_careAt 20 = .ok (.iconst 1, 1) := by decide +kernel
theorem d_pt_careAt_21 : decode b_pt_careAt 21 = .ok (.goto 4, 3) := by decide +kernel
theorem d_pt_careAt_24 : decode b_pt_careAt 24 = .ok (.iconst 0, 1) := by decide +kernel
theorem d_pt_careAt_25 : decode b_pt_careAt 25 = .ok (.ireturn, 1) := by decide +kernel
theorem d_pt_setCare_0 : decode b_pt_setCare 0 = .ok (.aload_n 0, 1) := by decide +kernel
theorem d_pt_setCare_1 : decode b_pt_setCare 1 = .ok (.iload_n 1, 1) := by decide +kernel
theorem d_pt_setCare_2 : decode b_pt_setCare 2 = .ok (.invokevirtual 31, 3) := by decide +kernel
theorem d_pt_setCare_5 : decode b_pt_setCare 5 = .ok (.iload_n 2, 1) := by decide +kernel
theorem d_pt_setCare_6 : decode b_pt_setCare 6 = .ok (.if_icmp .ne 5, 3) := by decide +kernel
theorem d_pt_setCare_9 : decode b_pt_setCare 9 = .ok (.iconst 0, 1) := by decide +kernel
theorem d_pt_setCare_10 : decode b_pt_setCare 10 = .ok (.ireturn, 1) := by decide +kernel
theorem d_pt_setCare_11 : decode b_pt_setCare 11 = .ok (.aload_n 0, 1) := by decide +kernel
theorem d_pt_setCare_12 : decode b_pt_setCare 12 = .ok (.iload_n 2, 1) := by decide +kernel
theorem d_pt_setCare_13 : decode b_pt_setCare 13 = .ok (.iconst (-1), 1) := by decide +kernel
theorem d_pt_setCare_14 : decode b_pt_setCare 14 = .ok (.if_icmp .ne 14, 3) := by decide +kernel
theorem d_pt_setCare_17 : decode b_pt_setCare 17 = .ok (.aload_n 0, 1) := by decide +kernel
theorem d_pt_setCare_18 : decode b_pt_setCare 18 = .ok (.getfield 9, 3) := by decide +kernel
theorem d_pt_setCare_21 : decode b_pt_setCare 21 = .ok (.iload_n 1, 1) := by decide +kernel
theorem d_pt_setCare_22 : decode b_pt_setCare 22 = .ok (.iconst (-1), 1) := by decide +kernel
theorem d_pt_setCare_23 : decode b_pt_setCare 23 = .ok (.ixor, 1) := by decide +kernel
theorem d_pt_setCare_24 : decode b_pt_setCare 24 = .ok (.iand, 1) := by decide +kernel
theorem d_pt_setCare_25 : decode b_pt_setCare 25 = .ok (.goto 9, 3) := by decide +kernel
theorem d_pt_setCare_28 : decode b_pt_setCare 28 = .ok (.aload_n 0, 1) := by decide +kernel
theorem d_pt_setCare_29 : decode b_pt_setCare 29 = .ok (.getfield 9, 3) := by decide +kernel
theorem d_pt_setCare_32 : decode b_pt_setCare 32 = .ok (.iload_n 1, 1) := by decide +kernel
theorem d_pt_setCare_33 : decode b_pt_setCare 33 = .ok (.ior, 1) := by decide +kernel
theorem d_pt_setCare_34 : decode b_pt_setCare 34 = .ok (.putfield 9, 3) := by decide +kernel
theorem d_pt_setCare_37 : decode b_pt_setCare 37 = .ok (.aload_n 0, 1) := by decide +kernel
theorem d_pt_setCare_38 : decode b_pt_setCare 38 = .ok (.iload_n 2, 1) := by decide +kernel
theorem d_pt_setCare_39 : decode b_pt_setCare 39 = .ok (.iconst 1, 1) := by decide +kernel
theorem d_pt_setCare_40 : decode b_pt_setCare 40 = .ok (.if_icmp .ne 12, 3) := by decide +kernel
theorem d_pt_setCare_43 : decode b_pt_setCare 43 = .ok (.aload_n 0, 1) := by decide +kernel
theorem d_pt_setCare_44 : decode b_pt_setCare 44 = .ok (.getfield 15, 3) := by decide +kernel
theorem d_pt_setCare_47 : decode b_pt_setCare 47 = .ok (.iload_n 1, 1) := by decide +kernel
theorem d_pt_setCare_48 : decode b_pt_setCare 48 = .ok (.ior, 1) := by decide +kernel
theorem d_pt_setCare_49 : decode b_pt_setCare 49 = .ok (.goto 11, 3) := by decide +kernel
theorem d_pt_setCare_52 : decode b_pt_setCare 52 = .ok (.aload_n 0, 1) := by decide +kernel
theorem d_pt_setCare_53 : decode b_pt_setCare 53 = .ok (.getfield 15, 3) := by decide +kernel
theorem d_pt_setCare_56 : decode b_pt_setCare 56 = .ok (.iload_n 1, 1) := by decide +kernel
theorem d_pt_setCare_57 : decode b_pt_setCare 57 = .ok (.iconst (-1), 1) := by decide +kernel
theorem d_pt_setCare_58 : decode b_pt_setCare 58 = .ok (.ixor, 1) := by decide +kernel
theorem d_pt_setCare_59 : decode b_pt_setCare 59 = .ok (.iand, 1) := by decide +kernel
theorem d_pt_setCare_60 : decode b_pt_setCare 60 = .ok (.putfield 15, 3) := by decide +kernel
theorem d_pt_setCare_63 : decode b_pt_setCare 63 = .ok (.aload_n 0, 1) := by decide +kernel
theorem d_pt_setCare_64 : decode b_pt_setCare 64 = .ok (.iconst (-1), 1) := by decide +kernel
theorem d_pt_setCare_65 : decode b_pt_setCare 65 = .ok (.putfield 24, 3) := by decide +kernel
theorem d_pt_setCare_68 : decode b_pt_setCare 68 = .ok (.iconst 1, 1) := by decide +kernel
theorem d_pt_setCare_69 : decode b_pt_setCare 69 = .ok (.ireturn, 1) := by decide +kernel
theorem d_pt_goesWith_0 : decode b_pt_goesWith 0 = .ok (.aload_n 0, 1) := by decide +kernel
theorem d_pt_goesWith_1 : decode b_pt_goesWith 1 = .ok (.getfield 9, 3) := by decide +kernel
theorem d_pt_goesWith_4 : decode b_pt_goesWith 4 = .ok (.aload_n 1, 1) := by decide +kernel
theorem d_pt_goesWith_5 : decode b_pt_goesWith 5 = .ok (.getfield 9, 3) := by decide +kernel
theorem d_pt_goesWith_8 : decode b_pt_goesWith 8 = .ok (.iand, 1) := by decide +kernel
theorem d_pt_goesWith_9 : decode b_pt_goesWith 9 = .ok (.aload_n 0, 1) := by decide +kernel
theorem d_pt_goesWith_10 : decode b_pt_goesWith 10 = .ok (.getfield 15, 3) := by decide +kernel
theorem d_pt_goesWith_13 : decode b_pt_goesWith 13 = .ok (.aload_n 1, 1) := by decide +kernel
theorem d_pt_goesWith_14 : decode b_pt_goesWith 14 = .ok (.getfield 15, 3) := by decide +kernel
theorem d_pt_goesWith_17 : decode b_pt_goesWith 17 = .ok (.ixor, 1) := by decide +kernel
theorem d_pt_goesWith_18 : decode b_pt_goesWith 18 = .ok (.iand, 1) := by decide +kernel
theorem d_pt_goesWith_19 : decode b_pt_goesWith 19 = .ok (.ifCond .ne 7, 3) := by decide +kernel
theorem d_pt_goesWith_22 : decode b_pt_goesWith 22 = .ok (.iconst 1, 1) := by decide +kernel
theorem d_pt_goesWith_23 : decode b_pt_goesWith 23 = .ok (.goto 4, 3) := by decide +kernel
theorem d_pt_goesWith_26 : decode b_pt_goesWith 26 = .ok (.iconst 0, 1) := by decide +kernel
theorem d_pt_goesWith_27 : decode b_pt_goesWith 27 = .ok (.ireturn, 1) := by decide +kernel
theorem d_pt_take_0 : decode b_pt_take 0 = .ok (.aload_n 0, 1) := by decide +kernel
theorem d_pt_take_1 : decode b_pt_take 1 = .ok (.dup, 1) := by decide +kernel
theorem d_pt_take_2 : decode b_pt_take 2 = .ok (.getfield 9, 3) := by decide +kernel
theorem d_pt_take_5 : decode b_pt_take 5 = .ok (.aload_n 1, 1) := by decide +kernel
theorem d_pt_take_6 : decode b_pt_take 6 = .ok (.getfield 9, 3) := by decide +kernel
theorem d_pt_take_9 : decode b_pt_take 9 = .ok (.ior, 1) := by decide +kernel
theorem d_pt_take_10 : decode b_pt_take 10 = .ok (.putfield 9, 3) := by decide +kernel
theorem d_pt_take_13 : decode b_pt_take 13 = .ok (.aload_n 0, 1) := by decide +kernel
theorem d_pt_take_14 : decode b_pt_take 14 = .ok (.dup, 1) := by decide +kernel
theorem d_pt_take_15 : decode b_pt_take 15 = .ok (.getfield 15, 3) := by decide +kernel
theorem d_pt_take_18 : decode b_pt_take 18 = .ok (.aload_n 1, 1) := by decide +kernel
theorem d_pt_take_19 : decode b_pt_take 19 = .ok (.getfield 15, 3) := by decide +kernel
theorem d_pt_take_22 : decode b_pt_take 22 = .ok (.ior, 1) := by decide +kernel
theorem d_pt_take_23 : decode b_pt_take 23 = .ok (.putfield 15, 3) := by decide +kernel
theorem d_pt_take_26 : decode b_pt_take 26 = .ok (.aload_n 0, 1) := by decide +kernel
theorem d_pt_take_27 : decode b_pt_take 27 = .ok (.dup, 1) := by decide +kernel
theorem d_pt_take_28 : decode b_pt_take 28 = .ok (.getfield 18, 3) := by decide +kernel
theorem d_pt_take_31 : decode b_pt_take 31 = .ok (.aload_n 1, 1) := by decide +kernel
theorem d_pt_take_32 : decode b_pt_take 32 = .ok (.getfield 18, 3) := by decide +kernel
theorem d_pt_take_35 : decode b_pt_take 35 = .ok (.ior, 1) := by decide +kernel
theorem d_pt_take_36 : decode b_pt_take 36 = .ok (.putfield 18, 3) := by decide +kernel
theorem d_pt_take_39 : decode b_pt_take 39 = .ok (.aload_n 0, 1) := by decide +kernel
theorem d_pt_take_40 : decode b_pt_take 40 = .ok (.dup, 1) := by decide +kernel
theorem d_pt_take_41 : decode b_pt_take 41 = .ok (.getfield 21, 3) := by decide +kernel
theorem d_pt_take_44 : decode b_pt_take 44 = .ok (.aload_n 1, 1) := by decide +kernel
theorem d_pt_take_45 : decode b_pt_take 45 = .ok (.getfield 21, 3) := by decide +kernel
theorem d_pt_take_48 : decode b_pt_take 48 = .ok (.ior, 1) := by decide +kernel
theorem d_pt_take_49 : decode b_pt_take 49 = .ok (.putfield 21, 3) := by decide +kernel
theorem d_pt_take_52 : decode b_pt_take 52 = .ok (.aload_n 0, 1) := by decide +kernel
theorem d_pt_take_53 : decode b_pt_take 53 = .ok (.iconst (-1), 1) := by decide +kernel
theorem d_pt_take_54 : decode b_pt_take 54 = .ok (.putfield 24, 3) := by decide +kernel
theorem d_pt_take_57 : decode b_pt_take 57 = .ok (.aload_n 1, 1) := by decide +kernel
theorem d_pt_take_58 : decode b_pt_take 58 = .ok (.iconst 1, 1) := by decide +kernel
theorem d_pt_take_59 : decode b_pt_take 59 = .ok (.putfield 27, 3) := by decide +kernel
theorem d_pt_take_62 : decode b_pt_take 62 = .ok (.return_, 1) := by decide +kernel
