theorem d_ps_count_0 : decode b_ps_count 0 = .ok (.iload_n 1, 1) := by decide +kernel
theorem d_ps_count_1 : decode b_ps_count 1 = .ok (.tableswitch 67 0 4 #[35, 40, 45, 50, 58], 35) := by decide +kernel
theorem d_ps_count_36 : decode b_ps_count 36 = .ok (.aload_n 0, 1) := by decide +kernel
theorem d_ps_count_37 : decode b_ps_count 37 = .ok (.invokevirtual 72, 3) := by decide +kernel
theorem d_ps_count_40 : decode b_ps_count 40 = .ok (.ireturn, 1) := by decide +kernel
theorem d_ps_count_41 : decode b_ps_count 41 = .ok (.aload_n 0, 1) := by decide +kernel
theorem d_ps_count_42 : decode b_ps_count 42 = .ok (.invokevirtual 171, 3) := by decide +kernel
theorem d_ps_count_45 : decode b_ps_count 45 = .ok (.ireturn, 1) := by decide +kernel
theorem d_ps_count_46 : decode b_ps_count 46 = .ok (.aload_n 0, 1) := by decide +kernel
theorem d_ps_count_47 : decode b_ps_count 47 = .ok (.invokevirtual 174, 3) := by decide +kernel
theorem d_ps_count_50 : decode b_ps_count 50 = .ok (.ireturn, 1) := by decide +kernel
theorem d_ps_count_51 : decode b_ps_count 51 = .ok (.aload_n 0, 1) := by decide +kernel
theorem d_ps_count_52 : decode b_ps_count 52 = .ok (.getfield 23, 3) := by decide +kernel
theorem d_ps_count_55 : decode b_ps_count 55 = .ok (.getfield 85, 3) := by decide +kernel
theorem d_ps_count_58 : decode b_ps_count 58 = .ok (.ireturn, 1) := by decide +kernel
theorem d_ps_count_59 : decode b_ps_count 59 = .ok (.aload_n 0, 1) := by decide +kernel
theorem d_ps_count_60 : decode b_ps_count 60 = .ok (.iconst (-1), 1) := by decide +kernel
theorem d_ps_count_61 : decode b_ps_count 61 = .ok (.invokevirtual 125, 3) := by decide +kernel
theorem d_ps_count_64 : decode b_ps_count 64 = .ok (.invokestatic 177, 3) := by decide +kernel
theorem d_ps_count_67 : decode b_ps_count 67 = .ok (.ireturn, 1) := by decide +kernel
theorem d_ps_count_68 : decode b_ps_count 68 = .ok (.new 88, 3) := by decide +kernel
theorem d_ps_count_71 : decode b_ps_count 71 = .ok (.dup, 1) := by decide +kernel
theorem d_ps_count_72 : decode b_ps_count 72 = .ok (.ldc 182, 2) := by decide +kernel
theorem d_ps_count_74 : decode b_ps_count 74 = .ok (.invokespecial 92, 3) := by decide +kernel
theorem d_ps_count_77 : decode b_ps_count 77 = .ok (.athrow, 1) := by decide +kernel
theorem d_ps_presentOrNull_0 : decode b_ps_presentOrNull 0 = .ok (.iload_n 1, 1) := by decide +kernel
theorem d_ps_presentOrNull_1 : decode b_ps_presentOrNull 1 = .ok (.ifCond .lt 12, 3) := by decide +kernel
theorem d_ps_presentOrNull_4 : decode b_ps_presentOrNull 4 = .ok (.iload_n 1, 1) := by decide +kernel
theorem d_ps_presentOrNull_5 : decode b_ps_presentOrNull 5 = .ok (.aload_n 0, 1) := by decide +kernel
theorem d_ps_presentOrNull_6 : decode b_ps_presentOrNull 6 = .ok (.getfield 29, 3) := by decide +kernel
theorem d_ps_presentOrNull_9 : decode b_ps_presentOrNull 9 = .ok (.arraylength, 1) := by decide +kernel
theorem d_ps_presentOrNull_10 : decode b_ps_presentOrNull 10 = .ok (.if_icmp .lt 5, 3) := by decide +kernel
theorem d_ps_presentOrNull_13 : decode b_ps_presentOrNull 13 = .ok (.aconst_null, 1) := by decide +kernel
theorem d_ps_presentOrNull_14 : decode b_ps_presentOrNull 14 = .ok (.areturn, 1) := by decide +kernel
theorem d_ps_presentOrNull_15 : decode b_ps_presentOrNull 15 = .ok (.aload_n 0, 1) := by decide +kernel
theorem d_ps_presentOrNull_16 : decode b_ps_presentOrNull 16 = .ok (.getfield 29, 3) := by decide +kernel
theorem d_ps_presentOrNull_19 : decode b_ps_presentOrNull 19 = .ok (.iload_n 1, 1) := by decide +kernel
theorem d_ps_presentOrNull_20 : decode b_ps_presentOrNull 20 = .ok (.aaload, 1) := by decide +kernel
theorem d_ps_presentOrNull_21 : decode b_ps_presentOrNull 21 = .ok (.astore_n 2, 1) := by decide +kernel
theorem d_ps_presentOrNull_22 : decode b_ps_presentOrNull 22 = .ok (.aload_n 2, 1) := by decide +kernel
theorem d_ps_presentOrNull_23 : decode b_ps_presentOrNull 23 = .ok (.ifnull 10, 3) := by decide +kernel
theorem d_ps_presentOrNull_26 : decode b_ps_presentOrNull 26 = .ok (.aload_n 2, 1) := by decide +kernel
theorem d_ps_presentOrNull_27 : decode b_ps_presentOrNull 27 = .ok (.getfield 128, 3) := by decide +kernel
theorem d_ps_presentOrNull_30 : decode b_ps_presentOrNull 30 = .ok (.ifCond .eq 7, 3) := by decide +kernel
theorem d_ps_presentOrNull_33 : decode b_ps_presentOrNull 33 = .ok (.aconst_null, 1) := by decide +kernel
theorem d_ps_presentOrNull_34 : decode b_ps_presentOrNull 34 = .ok (.goto 4, 3) := by decide +kernel
theorem d_ps_presentOrNull_37 : decode b_ps_presentOrNull 37 = .ok (.aload_n 2, 1) := by decide +kernel
theorem d_ps_presentOrNull_38 : decode b_ps_presentOrNull 38 = .ok (.areturn, 1) := by decide +kernel
theorem d_ps_present_0 : decode b_ps_present 0 = .ok (.aload_n 0, 1) := by decide +kernel
theorem d_ps_present_1 : decode b_ps_present 1 = .ok (.iload_n 1, 1) := by decide +kernel
theorem d_ps_present_2 : decode b_ps_present 2 = .ok (.invokevirtual 65, 3) := by decide +kernel
theorem d_ps_present_5 : decode b_ps_present 5 = .ok (.astore_n 2, 1) := by decide +kernel
theorem d_ps_present_6 : decode b_ps_present 6 = .ok (.aload_n 2, 1) := by decide +kernel
theorem d_ps_present_7 : decode b_ps_present 7 = .ok (.ifnonnull 13, 3) := by decide +kernel
theorem d_ps_present_10 : decode b_ps_present 10 = .ok (.new 88, 3) := by decide +kernel
theorem d_ps_present_13 : decode b_ps_present 13 = .ok (.dup, 1) := by decide +kernel
theorem d_ps_present_14 : decode b_ps_present 14 = .ok (.ldc 184, 2) := by decide +kernel
theorem d_ps_present_16 : decode b_ps_present 16 = .ok (.invokespecial 92, 3) := by decide +kernel
theorem d_ps_present_19 : decode b_ps_present 19 = .ok (.athrow, 1) := by decide +kernel
theorem d_ps_present_20 : decode b_ps_present 20 = .ok (.aload_n 2, 1) := by decide +kernel
theorem d_ps_present_21 : decode b_ps_present 21 = .ok (.areturn, 1) := by decide +kernel
theorem d_ps_existingPlace_0 : decode b_ps_existingPlace 0 = .ok (.iload_n 1, 1) := by decide +kernel
theorem d_ps_existingPlace_1 : decode b_ps_existingPlace 1 = .ok (.ifCond .lt 29, 3) := by decide +kernel
theorem d_ps_existingPlace_4 : decode b_ps_existingPlace 4 = .ok (.iload_n 1, 1) := by decide +kernel
theorem d_ps_existingPlace_5 : decode b_ps_existingPlace 5 = .ok (.aload_n 0, 1) := by decide +kernel
theorem d_ps_existingPlace_6 : decode b_ps_existingPlace 6 = .ok (.getfield 12, 3) := by decide +kernel
theorem d_ps_existingPlace_9 : decode b_ps_existingPlace 9 = .ok (.getfield 162, 3) := by decide +kernel
theorem d_ps_existingPlace_12 : decode b_ps_existingPlace 12 = .ok (.if_icmp .ge 18, 3) := by decide +kernel
theorem d_ps_existingPlace_15 : decode b_ps_existingPlace 15 = .ok (.iload_n 2, 1) := by decide +kernel
theorem d_ps_existingPlace_16 : decode b_ps_existingPlace 16 = .ok (.ifCond .lt 14, 3) := by decide +kernel
theorem d_ps_existingPlace_19 : decode b_ps_existingPlace 19 = .ok (.iload_n 2, 1) := by decide +kernel
theorem d_ps_existingPlace_20 : decode b_ps_existingPlace 20 = .ok (.aload_n 0, 1) := by decide +kernel
theorem d_ps_existingPlace_21 : decode b_ps_existingPlace 21 = .ok (.getfield 12, 3) := by decide +kernel
theorem d_ps_existingPlace_24 : decode b_ps_existingPlace 24 = .ok (.getfield 165, 3) := by decide +kernel
theorem d_ps_existingPlace_27 : decode b_ps_existingPlace 27 = .ok (.if_icmp .lt 13, 3) := by decide +kernel
theorem d_ps_existingPlace_30 : decode b_ps_existingPlace 30 = .ok (.new 88, 3) := by decide +kernel
theorem d_ps_existingPlace_33 : decode b_ps_existingPlace 33 = .ok (.dup, 1) := by decide +kernel
theorem d_ps_existingPlace_34 : decode b_ps_existingPlace 34 = .ok (.ldc 186, 2) := by decide +kernel
theorem d_ps_existingPlace_36 : decode b_ps_existingPlace 36 = .ok (.invokespecial 92, 3) := by decide +kernel
theorem d_ps_existingPlace_39 : decode b_ps_existingPlace 39 = .ok (.athrow, 1) := by decide +kernel
theorem d_ps_existingPlace_40 : decode b_ps_existingPlace 40 = .ok (.iload_n 1, 1) := by decide +kernel
theorem d_ps_existingPlace_41 : decode b_ps_existingPlace 41 = .ok (.iload_n 2, 1) := by decide +kernel
theorem d_ps_existingPlace_42 : decode b_ps_existingPlace 42 = .ok (.invokestatic 168, 3) := by decide +kernel
theorem d_ps_existingPlace_45 : decode b_ps_existingPlace 45 = .ok (.ireturn, 1) := by decide +kernel
theorem d_ps_existingFault_0 : decode b_ps_existingFault 0 = .ok (.iload_n 0, 1) := by decide +kernel
theorem d_ps_existingFault_1 : decode b_ps_existingFault 1 = .ok (.ifCond .lt 9, 3) := by decide +kernel
theorem d_ps_existingFault_4 : decode b_ps_existingFault 4 = .ok (.iload_n 0, 1) := by decide +kernel
theorem d_ps_existingFault_5 : decode b_ps_existingFault 5 = .ok (.bipush 31, 2) := by decide +kernel
theorem d_ps_existingFault_7 : decode b_ps_existingFault 7 = .ok (.if_icmp .lt 13, 3) := by decide +kernel
theorem d_ps_existingFault_10 : decode b_ps_existingFault 10 = .ok (.new 88, 3) := by decide +kernel
theorem d_ps_existingFault_13 : decode b_ps_existingFault 13 = .ok (.dup, 1) := by decide +kernel
theorem d_ps_existingFault_14 : decode b_ps_existingFault 14 = .ok (.ldc 188, 2) := by decide +kernel
theorem d_ps_existingFault_16 : decode b_ps_existingFault 16 = .ok (.invokespecial 92, 3) := by decide +kernel
theorem d_ps_existingFault_19 : decode b_ps_existingFault 19 = .ok (.athrow, 1) := by decide +kernel
theorem d_ps_existingFault_20 : decode b_ps_existingFault 20 = .ok (.iconst 1, 1) := by decide +kernel
theorem d_ps_existingFault_21 : decode b_ps_existingFault 21 = .ok (.iload_n 0, 1) := by decide +kernel
theorem d_ps_existingFault_22 : decode b_ps_existingFault 22 = .ok (.ishl, 1) := by decide +kernel
theorem d_ps_existingFault_23 : decode b_ps_existingFault 23 = .ok (.ireturn, 1) := by decide +kernel
theorem d_ps_place_0 : decode b_ps_place 0 = .ok (.iconst 1, 1) := by decide +kernel
theorem d_ps_place_1 : decode b_ps_place 1 = .ok (.iload_n 0, 1) := by decide +kernel
theorem d_ps_place_2 : decode b_ps_place 2 = .ok (.bipush 8, 2) := by decide +kernel
theorem d_ps_place_4 : decode b_ps_place 4 = .ok (.imul, 1) := by decide +kernel
theorem d_ps_place_5 : decode b_ps_place 5 = .ok (.iload_n 1, 1) := by decide +kernel
theorem d_ps_place_6 : decode b_ps_place 6 = .ok (.iadd, 1) := by decide +kernel
theorem d_ps_place_7 : decode b_ps_place 7 = .ok (.ishl, 1) := by decide +kernel
theorem d_ps_place_8 : decode b_ps_place 8 = .ok (.ireturn, 1) := by decide +kernel
theorem d_ps_takeFromBehind_0 : decode b_ps_takeFromBehind 0 = .ok (.iload_n 2, 1) := by decide +kernel
theorem d_ps_takeFromBehind_1 : decode b_ps_takeFromBehind 1 = .ok (.iconst 1, 1) := by decide +kernel
theorem d_ps_takeFromBehind_2 : decode b_ps_takeFromBehind 2 = .ok (.iadd, 1) := by decide +kernel
theorem d_ps_takeFromBehind_3 : decode b_ps_takeFromBehind 3 = .ok (.istore_n 3, 1) := by decide +kernel
theorem d_ps_takeFromBehind_4 : decode b_ps_takeFromBehind 4 = .ok (.iload_n 3, 1) := by decide +kernel
theorem d_ps_takeFromBehind_5 : decode b_ps_takeFromBehind 5 = .ok (.aload_n 0, 1) := by decide +kernel
theorem d_ps_takeFromBehind_6 : decode b_ps_takeFromBehind 6 = .ok (.getfield 29, 3) := by decide +kernel
theorem d_ps_takeFromBehind_9 : decode b_ps_takeFromBehind 9 = .ok (.arraylength, 1) := by decide +kernel
theorem d_ps_takeFromBehind_10 : decode b_ps_takeFromBehind 10 = .ok (.if_icmp .ge 36, 3) := by decide +kernel
theorem d_ps_takeFromBehind_13 : decode b_ps_takeFromBehind 13 = .ok (.aload_n 0, 1) := by decide +kernel
theorem d_ps_takeFromBehind_14 : decode b_ps_takeFromBehind 14 = .ok (.iload_n 3, 1) := by decide +kernel
theorem d_ps_takeFromBehind_15 : decode b_ps_takeFromBehind 15 = .ok (.invokevirtual 65, 3) := by decide +kernel
theorem d_ps_takeFromBehind_18 : decode b_ps_takeFromBehind 18 = .ok (.astore 4, 2) := by decide +kernel
theorem d_ps_takeFromBehind_20 : decode b_ps_takeFromBehind 20 = .ok (.aload 4, 2) := by decide +kernel
theorem d_ps_takeFromBehind_22 : decode b_ps_takeFromBehind 22 = .ok (.ifnull 18, 3) := by decide +kernel
theorem d_ps_takeFromBehind_25 : decode b_ps_takeFromBehind 25 = .ok (.aload_n 1, 1) := by decide +kernel
theorem d_ps_takeFromBehind_26 : decode b_ps_takeFromBehind 26 = .ok (.aload 4, 2) := by decide +kernel
theorem d_ps_takeFromBehind_28 : decode b_ps_takeFromBehind 28 = .ok (.invokevirtual 190, 3) := by decide +kernel
theorem d_ps_takeFromBehind_31 : decode b_ps_takeFromBehind 31 = .ok (.ifCond .eq 9, 3) := by decide +kernel
theorem d_ps_takeFromBehind_34 : decode b_ps_takeFromBehind 34 = .ok (.aload_n 1, 1) := by decide +kernel
theorem d_ps_takeFromBehind_35 : decode b_ps_takeFromBehind 35 = .ok (.aload 4, 2) := by decide +kernel
theorem d_ps_takeFromBehind_37 : decode b_ps_takeFromBehind 37 = .ok (.invokevirtual 194, 3) := by decide +kernel
theorem d_ps_takeFromBehind_40 : decode b_ps_takeFromBehind 40 = .ok (.iinc 3 1, 3) := by decide +kernel
theorem d_ps_takeFromBehind_43 : decode b_ps_takeFromBehind 43 = .ok (.goto (-39), 3) := by decide +kernel
theorem d_ps_takeFromBehind_46 : decode b_ps_takeFromBehind 46 = .ok (.return_, 1) := by decide +kernel
theorem d_ps_forgetSeeds_0 : decode b_ps_forgetSeeds 0 = .ok (.iconst 0, 1) := by decide +kernel
theorem d_ps_forgetSeeds_1 : decode b_ps_forgetSeeds 1 = .ok (.istore_n 1, 1) := by decide +kernel
theorem d_ps_forgetSeeds_2 : decode b_ps_forgetSeeds 2 = .ok (.iload_n 1, 1) := by decide +kernel
theorem d_ps_forgetSeeds_3 : decode b_ps_forgetSeeds 3 = .ok (.aload_n 0, 1) := by decide +kernel
theorem d_ps_forgetSeeds_4 : decode b_ps_forgetSeeds 4 = .ok (.getfield 29, 3) := by decide +kernel
theorem d_ps_forgetSeeds_7 : decode b_ps_forgetSeeds 7 = .ok (.arraylength, 1) := by decide +kernel
theorem d_ps_forgetSeeds_8 : decode b_ps_forgetSeeds 8 = .ok (.if_icmp .ge 24, 3) := by decide +kernel
theorem d_ps_forgetSeeds_11 : decode b_ps_forgetSeeds 11 = .ok (.aload_n 0, 1) := by decide +kernel
theorem d_ps_forgetSeeds_12 : decode b_ps_forgetSeeds 12 = .ok (.iload_n 1, 1) := by decide +kernel
theorem d_ps_forgetSeeds_13 : decode b_ps_forgetSeeds 13 = .ok (.invokevirtual 65, 3) := by decide +kernel
theorem d_ps_forgetSeeds_16 : decode b_ps_forgetSeeds 16 = .ok (.astore_n 2, 1) := by decide +kernel
theorem d_ps_forgetSeeds_17 : decode b_ps_forgetSeeds 17 = .ok (.aload_n 2, 1) := by decide +kernel
theorem d_ps_forgetSeeds_18 : decode b_ps_forgetSeeds 18 = .ok (.ifnull 8, 3) := by decide +kernel
theorem d_ps_forgetSeeds_21 : decode b_ps_forgetSeeds 21 = .ok (.aload_n 2, 1) := by decide +kernel
theorem d_ps_forgetSeeds_22 : decode b_ps_forgetSeeds 22 = .ok (.iconst (-1), 1) := by decide +kernel
theorem d_ps_forgetSeeds_23 : decode b_ps_forgetSeeds 23 = .ok (.putfield 111, 3) := by decide +kernel
theorem d_ps_forgetSeeds_26 : decode b_ps_forgetSeeds 26 = .ok (.iinc 1 1, 3) := by decide +kernel
theorem d_ps_forgetSeeds_29 : decode b_ps_forgetSeeds 29 = .ok (.goto (-27), 3) := by decide +kernel
theorem d_ps_forgetSeeds_32 : decode b_ps_forgetSeeds 32 = .ok (.return_, 1) := by decide +kernel
theorem d_ps_faultsOfAllBut_0 : decode b_ps_faultsOfAllBut 0 = .ok (.iconst 0, 1) := by decide +kernel
theorem d_ps_faultsOfAllBut_1 : decode b_ps_faultsOfAllBut 1 = .ok (.istore_n 2, 1) := by decide +kernel
theorem d_ps_faultsOfAllBut_2 : decode b_ps_faultsOfAllBut 2 = .ok (.iconst 0, 1) := by decide +kernel
theorem d_ps_faultsOfAllBut_3 : decode b_ps_faultsOfAllBut 3 = .ok (.istore_n 3, 1) := by decide +kernel
theorem d_ps_faultsOfAllBut_4 : decode b_ps_faultsOfAllBut 4 = .ok (.iload_n 3, 1) := by decide +kernel
theorem d_ps_faultsOfAllBut_5 : decode b_ps_faultsOfAllBut 5 = .ok (.aload_n 0, 1) := by decide +kernel
theorem d_ps_faultsOfAllBut_6 : decode b_ps_faultsOfAllBut 6 = .ok (.getfield 29, 3) := by decide +kernel
theorem d_ps_faultsOfAllBut_9 : decode b_ps_faultsOfAllBut 9 = .ok (.arraylength, 1) := by decide +kernel
theorem d_ps_faultsOfAllBut_10 : decode b_ps_faultsOfAllBut 10 = .ok (.if_icmp .ge 34, 3) := by decide +kernel
theorem d_ps_faultsOfAllBut_13 : decode b_ps_faultsOfAllBut 13 = .ok (.aload_n 0, 1) := by decide +kernel
theorem d_ps_faultsOfAllBut_14 : decode b_ps_faultsOfAllBut 14 = .ok (.iload_n 3, 1) := by decide +kernel
theorem d_ps_faultsOfAllBut_15 : decode b_ps_faultsOfAllBut 15 = .ok (.invokevirtual 65, 3) := by decide +kernel
theorem d_ps_faultsOfAllBut_18 : decode b_ps_faultsOfAllBut 18 = .ok (.astore 4, 2) := by decide +kernel
theorem d_ps_faultsOfAllBut_20 : decode b_ps_faultsOfAllBut 20 = .ok (.aload 4, 2) := by decide +kernel
theorem d_ps_faultsOfAllBut_22 : decode b_ps_faultsOfAllBut 22 = .ok (.ifnull 16, 3) := by decide +kernel
theorem d_ps_faultsOfAllBut_25 : decode b_ps_faultsOfAllBut 25 = .ok (.iload_n 3, 1) := by decide +kernel
theorem d_ps_faultsOfAllBut_26 : decode b_ps_faultsOfAllBut 26 = .ok (.iload_n 1, 1) := by decide +kernel
theorem d_ps_faultsOfAllBut_27 : decode b_ps_faultsOfAllBut 27 = .ok (.if_icmp .eq 11, 3) := by decide +kernel
theorem d_ps_faultsOfAllBut_30 : decode b_ps_faultsOfAllBut 30 = .ok (.iload_n 2, 1) := by decide +kernel
theorem d_ps_faultsOfAllBut_31 : decode b_ps_faultsOfAllBut 31 = .ok (.aload 4, 2) := by decide +kernel
theorem d_ps_faultsOfAllBut_33 : decode b_ps_faultsOfAllBut 33 = .ok (.getfield 122, 3) := by decide +kernel
theorem d_ps_faultsOfAllBut_36 : decode b_ps_faultsOfAllBut 36 = .ok (.ior, 1) := by decide +kernel
theorem d_ps_faultsOfAllBut_37 : decode b_ps_faultsOfAllBut 37 = .ok (.istore_n 2, 1) := by decide +kernel
theorem d_ps_faultsOfAllBut_38 : decode b_ps_faultsOfAllBut 38 = .ok (.iinc 3 1, 3) := by decide +kernel
theorem d_ps_faultsOfAllBut_41 : decode b_ps_faultsOfAllBut 41 = .ok (.goto (-37), 3) := by decide +kernel
theorem d_ps_faultsOfAllBut_44 : decode b_ps_faultsOfAllBut 44 = .ok (.iload_n 2, 1) := by decide +kernel
theorem d_ps_faultsOfAllBut_45 : decode b_ps_faultsOfAllBut 45 = .ok (.ireturn, 1) := by decide +kernel
theorem d_ps_countPresent_0 : decode b_ps_countPresent 0 = .ok (.iconst 0, 1) := by decide +kernel
theorem d_ps_countPresent_1 : decode b_ps_countPresent 1 = .ok (.istore_n 1, 1) := by decide +kernel
theorem d_ps_countPresent_2 : decode b_ps_countPresent 2 = .ok (.iconst 0, 1) := by decide +kernel
theorem d_ps_countPresent_3 : decode b_ps_countPresent 3 = .ok (.istore_n 2, 1) := by decide +kernel
theorem d_ps_countPresent_4 : decode b_ps_countPresent 4 = .ok (.iload_n 2, 1) := by decide +kernel
theorem d_ps_countPresent_5 : decode b_ps_countPresent 5 = .ok (.aload_n 0, 1) := by decide +kernel
theorem d_ps_countPresent_6 : decode b_ps_countPresent 6 = .ok (.getfield 29, 3) := by decide +kernel
theorem d_ps_countPresent_9 : decode b_ps_countPresent 9 = .ok (.arraylength, 1) := by decide +kernel
theorem d_ps_countPresent_10 : decode b_ps_countPresent 10 = .ok (.if_icmp .ge 20, 3) := by decide +kernel
theorem d_ps_countPresent_13 : decode b_ps_countPresent 13 = .ok (.aload_n 0, 1) := by decide +kernel
theorem d_ps_countPresent_14 : decode b_ps_countPresent 14 = .ok (.iload_n 2, 1) := by decide +kernel
theorem d_ps_countPresent_15 : decode b_ps_countPresent 15 = .ok (.invokevirtual 65, 3) := by decide +kernel
theorem d_ps_countPresent_18 : decode b_ps_countPresent 18 = .ok (.ifnull 6, 3) := by decide +kernel
theorem d_ps_countPresent_21 : decode b_ps_countPresent 21 = .ok (.iinc 1 1, 3) := by decide +kernel
theorem d_ps_countPresent_24 : decode b_ps_countPresent 24 = .ok (.iinc 2 1, 3) := by decide +kernel
theorem d_ps_countPresent_27 : decode b_ps_countPresent 27 = .ok (.goto (-23), 3) := by decide +kernel
theorem d_ps_countPresent_30 : decode b_ps_countPresent 30 = .ok (.iload_n 1, 1) := by decide +kernel
theorem d_ps_countPresent_31 : decode b_ps_countPresent 31 = .ok (.ireturn, 1) := by decide +kernel
theorem d_ps_countSeeded_0 : decode b_ps_countSeeded 0 = .ok (.iconst 0, 1) := by decide +kernel
theorem d_ps_countSeeded_1 : decode b_ps_countSeeded 1 = .ok (.istore_n 1, 1) := by decide +kernel
theorem d_ps_countSeeded_2 : decode b_ps_countSeeded 2 = .ok (.iconst 0, 1) := by decide +kernel
theorem d_ps_countSeeded_3 : decode b_ps_countSeeded 3 = .ok (.istore_n 2, 1) := by decide +kernel
theorem d_ps_countSeeded_4 : decode b_ps_countSeeded 4 = .ok (.iload_n 2, 1) := by decide +kernel
theorem d_ps_countSeeded_5 : decode b_ps_countSeeded 5 = .ok (.aload_n 0, 1) := by decide +kernel
theorem d_ps_countSeeded_6 : decode b_ps_countSeeded 6 = .ok (.getfield 29, 3) := by decide +kernel
theorem d_ps_countSeeded_9 : decode b_ps_countSeeded 9 = .ok (.arraylength, 1) := by decide +kernel
theorem d_ps_countSeeded_10 : decode b_ps_countSeeded 10 = .ok (.if_icmp .ge 30, 3) := by decide +kernel
theorem d_ps_countSeeded_13 : decode b_ps_countSeeded 13 = .ok (.aload_n 0, 1) := by decide +kernel
theorem d_ps_countSeeded_14 : decode b_ps_countSeeded 14 = .ok (.iload_n 2, 1) := by decide +kernel
theorem d_ps_countSeeded_15 : decode b_ps_countSeeded 15 = .ok (.invokevirtual 65, 3) := by decide +kernel
theorem d_ps_countSeeded_18 : decode b_ps_countSeeded 18 = .ok (.astore_n 3, 1) := by decide +kernel
theorem d_ps_countSeeded_19 : decode b_ps_countSeeded 19 = .ok (.aload_n 3, 1) := by decide +kernel
theorem d_ps_countSeeded_20 : decode b_ps_countSeeded 20 = .ok (.ifnull 14, 3) := by decide +kernel
theorem d_ps_countSeeded_23 : decode b_ps_countSeeded 23 = .ok (.aload_n 3, 1) := by decide +kernel
theorem d_ps_countSeeded_24 : decode b_ps_countSeeded 24 = .ok (.getfield 111, 3) := by decide +kernel
theorem d_ps_countSeeded_27 : decode b_ps_countSeeded 27 = .ok (.iconst (-1), 1) := by decide +kernel
theorem d_ps_countSeeded_28 : decode b_ps_countSeeded 28 = .ok (.if_icmp .eq 6, 3) := by decide +kernel
theorem d_ps_countSeeded_31 : decode b_ps_countSeeded 31 = .ok (.iinc 1 1, 3) := by decide +kernel
theorem d_ps_countSeeded_34 : decode b_ps_countSeeded 34 = .ok (.iinc 2 1, 3) := by decide +kernel
theorem d_ps_countSeeded_37 : decode b_ps_countSeeded 37 = .ok (.goto (-33), 3) := by decide +kernel
theorem d_ps_countSeeded_40 : decode b_ps_countSeeded 40 = .ok (.iload_n 1, 1) := by decide +kernel
theorem d_ps_countSeeded_41 : decode b_ps_countSeeded 41 = .ok (.ireturn, 1) := by decide +kernel
theorem d_ps_countCared_0 : decode b_ps_countCared 0 = .ok (.iconst 0, 1) := by decide +kernel
theorem d_ps_countCared_1 : decode b_ps_countCared 1 = .ok (.istore_n 1, 1) := by decide +kernel
theorem d_ps_countCared_2 : decode b_ps_countCared 2 = .ok (.iconst 0, 1) := by decide +kernel
theorem d_ps_countCared_3 : decode b_ps_countCared 3 = .ok (.istore_n 2, 1) := by decide +kernel
theorem d_ps_countCared_4 : decode b_ps_countCared 4 = .ok (.iload_n 2, 1) := by decide +kernel
theorem d_ps_countCared_5 : decode b_ps_countCared 5 = .ok (.aload_n 0, 1) := by decide +kernel
theorem d_ps_countCared_6 : decode b_ps_countCared 6 = .ok (.getfield 29, 3) := by decide +kernel
theorem d_ps_countCared_9 : decode b_ps_countCared 9 = .ok (.arraylength, 1) := by decide +kernel
theorem d_ps_countCared_10 : decode b_ps_countCared 10 = .ok (.if_icmp .ge 29, 3) := by decide +kernel
theorem d_ps_countCared_13 : decode b_ps_countCared 13 = .ok (.aload_n 0, 1) := by decide +kernel
theorem d_ps_countCared_14 : decode b_ps_countCared 14 = .ok (.iload_n 2, 1) := by decide +kernel
theorem d_ps_countCared_15 : decode b_ps_countCared 15 = .ok (.invokevirtual 65, 3) := by decide +kernel
theorem d_ps_countCared_18 : decode b_ps_countCared 18 = .ok (.astore_n 3, 1) := by decide +kernel
theorem d_ps_countCared_19 : decode b_ps_countCared 19 = .ok (.aload_n 3, 1) := by decide +kernel
theorem d_ps_countCared_20 : decode b_ps_countCared 20 = .ok (.ifnull 13, 3) := by decide +kernel
theorem d_ps_countCared_23 : decode b_ps_countCared 23 = .ok (.iload_n 1, 1) := by decide +kernel
theorem d_ps_countCared_24 : decode b_ps_countCared 24 = .ok (.aload_n 3, 1) := by decide +kernel
theorem d_ps_countCared_25 : decode b_ps_countCared 25 = .ok (.getfield 102, 3) := by decide +kernel
theorem d_ps_countCared_28 : decode b_ps_countCared 28 = .ok (.invokestatic 177, 3) := by decide +kernel
theorem d_ps_countCared_31 : decode b_ps_countCared 31 = .ok (.iadd, 1) := by decide +kernel
theorem d_ps_countCared_32 : decode b_ps_countCared 32 = .ok (.istore_n 1, 1) := by decide +kernel
theorem d_ps_countCared_33 : decode b_ps_countCared 33 = .ok (.iinc 2 1, 3) := by decide +kernel
theorem d_ps_countCared_36 : decode b_ps_countCared 36 = .ok (.goto (-32), 3) := by decide +kernel
theorem d_ps_countCared_39 : decode b_ps_countCared 39 = .ok (.iload_n 1, 1) := by decide +kernel
theorem d_ps_countCared_40 : decode b_ps_countCared 40 = .ok (.ireturn, 1) := by decide +kernel
theorem d_ps_bitsOf_0 : decode b_ps_bitsOf 0 = .ok (.aload_n 1, 1) := by decide +kernel
theorem d_ps_bitsOf_1 : decode b_ps_bitsOf 1 = .ok (.getfield 111, 3) := by decide +kernel
theorem d_ps_bitsOf_4 : decode b_ps_bitsOf 4 = .ok (.iconst (-1), 1) := by decide +kernel
theorem d_ps_bitsOf_5 : decode b_ps_bitsOf 5 = .ok (.if_icmp .eq 15, 3) := by decide +kernel
theorem d_ps_bitsOf_8 : decode b_ps_bitsOf 8 = .ok (.aload_n 0, 1) := by decide +kernel
theorem d_ps_bitsOf_9 : decode b_ps_bitsOf 9 = .ok (.getfield 23, 3) := by decide +kernel
theorem d_ps_bitsOf_12 : decode b_ps_bitsOf 12 = .ok (.aload_n 1, 1) := by decide +kernel
theorem d_ps_bitsOf_13 : decode b_ps_bitsOf 13 = .ok (.getfield 111, 3) := by decide +kernel
theorem d_ps_bitsOf_16 : decode b_ps_bitsOf 16 = .ok (.invokevirtual 198, 3) := by decide +kernel
theorem d_ps_bitsOf_19 : decode b_ps_bitsOf 19 = .ok (.ireturn, 1) := by decide +kernel
theorem d_ps_bitsOf_20 : decode b_ps_bitsOf 20 = .ok (.aload_n 0, 1) := by decide +kernel
theorem d_ps_bitsOf_21 : decode b_ps_bitsOf 21 = .ok (.getfield 37, 3) := by decide +kernel
theorem d_ps_bitsOf_24 : decode b_ps_bitsOf 24 = .ok (.iconst 1, 1) := by decide +kernel
theorem d_ps_bitsOf_25 : decode b_ps_bitsOf 25 = .ok (.if_icmp .ne 15, 3) := by decide +kernel
theorem d_ps_bitsOf_28 : decode b_ps_bitsOf 28 = .ok (.aload_n 1, 1) := by decide +kernel
theorem d_ps_bitsOf_29 : decode b_ps_bitsOf 29 = .ok (.getfield 105, 3) := by decide +kernel
theorem d_ps_bitsOf_32 : decode b_ps_bitsOf 32 = .ok (.aload_n 1, 1) := by decide +kernel
theorem d_ps_bitsOf_33 : decode b_ps_bitsOf 33 = .ok (.getfield 102, 3) := by decide +kernel
theorem d_ps_bitsOf_36 : decode b_ps_bitsOf 36 = .ok (.iconst (-1), 1) := by decide +kernel
theorem d_ps_bitsOf_37 : decode b_ps_bitsOf 37 = .ok (.ixor, 1) := by decide +kernel
theorem d_ps_bitsOf_38 : decode b_ps_bitsOf 38 = .ok (.ior, 1) := by decide +kernel
theorem d_ps_bitsOf_39 : decode b_ps_bitsOf 39 = .ok (.ireturn, 1) := by decide +kernel
theorem d_ps_bitsOf_40 : decode b_ps_bitsOf 40 = .ok (.aload_n 0, 1) := by decide +kernel
theorem d_ps_bitsOf_41 : decode b_ps_bitsOf 41 = .ok (.getfield 37, 3) := by decide +kernel
theorem d_ps_bitsOf_44 : decode b_ps_bitsOf 44 = .ok (.iconst 2, 1) := by decide +kernel
theorem d_ps_bitsOf_45 : decode b_ps_bitsOf 45 = .ok (.if_icmp .ne 11, 3) := by decide +kernel
theorem d_ps_bitsOf_48 : decode b_ps_bitsOf 48 = .ok (.aload_n 0, 1) := by decide +kernel
theorem d_ps_bitsOf_49 : decode b_ps_bitsOf 49 = .ok (.aload_n 1, 1) := by decide +kernel
theorem d_ps_bitsOf_50 : decode b_ps_bitsOf 50 = .ok (.invokevirtual 201, 3) := by decide +kernel
theorem d_ps_bitsOf_53 : decode b_ps_bitsOf 53 = .ok (.goto 7, 3) := by decide +kernel
theorem d_ps_bitsOf_56 : decode b_ps_bitsOf 56 = .ok (.aload_n 1, 1) := by decide +kernel
theorem d_ps_bitsOf_57 : decode b_ps_bitsOf 57 = .ok (.getfield 105, 3) := by decide +kernel
theorem d_ps_bitsOf_60 : decode b_ps_bitsOf 60 = .ok (.ireturn, 1) := by decide +kernel
theorem d_ps_filledFromNearest_0 : decode b_ps_filledFromNearest 0 = .ok (.iconst 0, 1) := by decide +kernel
theorem d_ps_filledFromNearest_1 : decode b_ps_filledFromNearest 1 = .ok (.istore_n 2, 1) := by decide +kernel
theorem d_ps_filledFromNearest_2 : decode b_ps_filledFromNearest 2 = .ok (.iconst 0, 1) := by decide +kernel
theorem d_ps_filledFromNearest_3 : decode b_ps_filledFromNearest 3 = .ok (.istore_n 3, 1) := by decide +kernel
theorem d_ps_filledFromNearest_4 : decode b_ps_filledFromNearest 4 = .ok (.iload_n 3, 1) := by decide +kernel
theorem d_ps_filledFromNearest_5 : decode b_ps_filledFromNearest 5 = .ok (.aload_n 0, 1) := by decide +kernel
theorem d_ps_filledFromNearest_6 : decode b_ps_filledFromNearest 6 = .ok (.getfield 12, 3) := by decide +kernel
theorem d_ps_filledFromNearest_9 : decode b_ps_filledFromNearest 9 = .ok (.getfield 162, 3) := by decide +kernel
theorem d_ps_filledFromNearest_12 : decode b_ps_filledFromNearest 12 = .ok (.if_icmp .ge 51, 3) := by decide +kernel
theorem d_ps_filledFromNearest_15 : decode b_ps_filledFromNearest 15 = .ok (.iconst 0, 1) := by decide +kernel
theorem d_ps_filledFromNearest_16 : decode b_ps_filledFromNearest 16 = .ok (.istore 4, 2) := by decide +kernel
theorem d_ps_filledFromNearest_18 : decode b_ps_filledFromNearest 18 = .ok (.iload 4, 2) := by decide +kernel
theorem d_ps_filledFromNearest_20 : decode b_ps_filledFromNearest 20 = .ok (.aload_n 0, 1) := by decide +kernel
theorem d_ps_filledFromNearest_21 : decode b_ps_filledFromNearest 21 = .ok (.getfield 12, 3) := by decide +kernel
theorem d_ps_filledFromNearest_24 : decode b_ps_filledFromNearest 24 = .ok (.getfield 165, 3) := by decide +kernel
theorem d_ps_filledFromNearest_27 : decode b_ps_filledFromNearest 27 = .ok (.if_icmp .ge 30, 3) := by decide +kernel
theorem d_ps_filledFromNearest_30 : decode b_ps_filledFromNearest 30 = .ok (.aload_n 0, 1) := by decide +kernel
theorem d_ps_filledFromNearest_31 : decode b_ps_filledFromNearest 31 = .ok (.aload_n 1, 1) := by decide +kernel
theorem d_ps_filledFromNearest_32 : decode b_ps_filledFromNearest 32 = .ok (.iload_n 3, 1) := by decide +kernel
theorem d_ps_filledFromNearest_33 : decode b_ps_filledFromNearest 33 = .ok (.iload 4, 2) := by decide +kernel
theorem d_ps_filledFromNearest_35 : decode b_ps_filledFromNearest 35 = .ok (.invokevirtual 204, 3) := by decide +kernel
theorem d_ps_filledFromNearest_38 : decode b_ps_filledFromNearest 38 = .ok (.iconst 1, 1) := by decide +kernel
theorem d_ps_filledFromNearest_39 : decode b_ps_filledFromNearest 39 = .ok (.if_icmp .ne 12, 3) := by decide +kernel
theorem d_ps_filledFromNearest_42 : decode b_ps_filledFromNearest 42 = .ok (.iload_n 2, 1) := by decide +kernel
theorem d_ps_filledFromNearest_43 : decode b_ps_filledFromNearest 43 = .ok (.iload_n 3, 1) := by decide +kernel
theorem d_ps_filledFromNearest_44 : decode b_ps_filledFromNearest 44 = .ok (.iload 4, 2) := by decide +kernel
theorem d_ps_filledFromNearest_46 : decode b_ps_filledFromNearest 46 = .ok (.invokestatic 168, 3) := by decide +kernel
theorem d_ps_filledFromNearest_49 : decode b_ps_filledFromNearest 49 = .ok (.ior, 1) := by decide +kernel
theorem d_ps_filledFromNearest_50 : decode b_ps_filledFromNearest 50 = .ok (.istore_n 2, 1) := by decide +kernel
theorem d_ps_filledFromNearest_51 : decode b_ps_filledFromNearest 51 = .ok (.iinc 4 1, 3) := by decide +kernel
theorem d_ps_filledFromNearest_54 : decode b_ps_filledFromNearest 54 = .ok (.goto (-36), 3) := by decide +kernel
theorem d_ps_filledFromNearest_57 : decode b_ps_filledFromNearest 57 = .ok (.iinc 3 1, 3) := by decide +kernel
theorem d_ps_filledFromNearest_60 : decode b_ps_filledFromNearest 60 = .ok (.goto (-56), 3) := by decide +kernel
theorem d_ps_filledFromNearest_63 : decode b_ps_filledFromNearest 63 = .ok (.iload_n 2, 1) := by decide +kernel
theorem d_ps_filledFromNearest_64 : decode b_ps_filledFromNearest 64 = .ok (.ireturn, 1) := by decide +kernel
theorem d_ps_nearestCare_0 : decode b_ps_nearestCare 0 = .ok (.iload_n 3, 1) := by decide +kernel
theorem d_ps_nearestCare_1 : decode b_ps_nearestCare 1 = .ok (.istore 4, 2) := by decide +kernel
theorem d_ps_nearestCare_3 : decode b_ps_nearestCare 3 = .ok (.iload 4, 2) := by decide +kernel
theorem d_ps_nearestCare_5 : decode b_ps_nearestCare 5 = .ok (.ifCond .lt 30, 3) := by decide +kernel
theorem d_ps_nearestCare_8 : decode b_ps_nearestCare 8 = .ok (.aload_n 1, 1) := by decide +kernel
theorem d_ps_nearestCare_9 : decode b_ps_nearestCare 9 = .ok (.iload_n 2, 1) := by decide +kernel
theorem d_ps_nearestCare_10 : decode b_ps_nearestCare 10 = .ok (.iload 4, 2) := by decide +kernel
theorem d_ps_nearestCare_12 : decode b_ps_nearestCare 12 = .ok (.invokestatic 168, 3) := by decide +kernel
theorem d_ps_nearestCare_15 : decode b_ps_nearestCare 15 = .ok (.invokevirtual 208, 3) := by decide +kernel
theorem d_ps_nearestCare_18 : decode b_ps_nearestCare 18 = .ok (.istore 5, 2) := by decide +kernel
theorem d_ps_nearestCare_20 : decode b_ps_nearestCare 20 = .ok (.iload 5, 2) := by decide +kernel
theorem d_ps_nearestCare_22 : decode b_ps_nearestCare 22 = .ok (.iconst (-1), 1) := by decide +kernel
theorem d_ps_nearestCare_23 : decode b_ps_nearestCare 23 = .ok (.if_icmp .eq 6, 3) := by decide +kernel
theorem d_ps_nearestCare_26 : decode b_ps_nearestCare 26 = .ok (.iload 5, 2) := by decide +kernel
theorem d_ps_nearestCare_28 : decode b_ps_nearestCare 28 = .ok (.ireturn, 1) := by decide +kernel
theorem d_ps_nearestCare_29 : decode b_ps_nearestCare 29 = .ok (.iinc 4 (-1), 3) := by decide +kernel
theorem d_ps_nearestCare_32 : decode b_ps_nearestCare 32 = .ok (.goto (-29), 3) := by decide +kernel
theorem d_ps_nearestCare_35 : decode b_ps_nearestCare 35 = .ok (.iload_n 3, 1) := by decide +kernel
theorem d_ps_nearestCare_36 : decode b_ps_nearestCare 36 = .ok (.iconst 1, 1) := by decide +kernel
theorem d_ps_nearestCare_37 : decode b_ps_nearestCare 37 = .ok (.iadd, 1) := by decide +kernel
theorem d_ps_nearestCare_38 : decode b_ps_nearestCare 38 = .ok (.istore 4, 2) := by decide +kernel
theorem d_ps_nearestCare_40 : decode b_ps_nearestCare 40 = .ok (.iload 4, 2) := by decide +kernel
theorem d_ps_nearestCare_42 : decode b_ps_nearestCare 42 = .ok (.aload_n 0, 1) := by decide +kernel
theorem d_ps_nearestCare_43 : decode b_ps_nearestCare 43 = .ok (.getfield 12, 3) := by decide +kernel
theorem d_ps_nearestCare_46 : decode b_ps_nearestCare 46 = .ok (.getfield 165, 3) := by decide +kernel
theorem d_ps_nearestCare_49 : decode b_ps_nearestCare 49 = .ok (.if_icmp .ge 30, 3) := by decide +kernel
theorem d_ps_nearestCare_52 : decode b_ps_nearestCare 52 = .ok (.aload_n 1, 1) := by decide +kernel
theorem d_ps_nearestCare_53 : decode b_ps_nearestCare 53 = .ok (.iload_n 2, 1) := by decide +kernel
theorem d_ps_nearestCare_54 : decode b_ps_nearestCare 54 = .ok (.iload 4, 2) := by decide +kernel
theorem d_ps_nearestCare_56 : decode b_ps_nearestCare 56 = .ok (.invokestatic 168, 3) := by decide +kernel
theorem d_ps_nearestCare_59 : decode b_ps_nearestCare 59 = .ok (.invokevirtual 208, 3) := by decide +kernel
theorem d_ps_nearestCare_62 : decode b_ps_nearestCare 62 = .ok (.istore 5, 2) := by decide +kernel
theorem d_ps_nearestCare_64 : decode b_ps_nearestCare 64 = .ok (.iload 5, 2) := by decide +kernel
theorem d_ps_nearestCare_66 : decode b_ps_nearestCare 66 = .ok (.iconst (-1), 1) := by decide +kernel
theorem d_ps_nearestCare_67 : decode b_ps_nearestCare 67 = .ok (.if_icmp .eq 6, 3) := by decide +kernel
theorem d_ps_nearestCare_70 : decode b_ps_nearestCare 70 = .ok (.iload 5, 2) := by decide +kernel
theorem d_ps_nearestCare_72 : decode b_ps_nearestCare 72 = .ok (.ireturn, 1) := by decide +kernel
theorem d_ps_nearestCare_73 : decode b_ps_nearestCare 73 = .ok (.iinc 4 1, 3) := by decide +kernel
theorem d_ps_nearestCare_76 : decode b_ps_nearestCare 76 = .ok (.goto (-36), 3) := by decide +kernel
theorem d_ps_nearestCare_79 : decode b_ps_nearestCare 79 = .ok (.iconst 0, 1) := by decide +kernel
theorem d_ps_nearestCare_80 : decode b_ps_nearestCare 80 = .ok (.ireturn, 1) := by decide +kernel
theorem d_ps_greatestDivisor_0 : decode b_ps_greatestDivisor 0 = .ok (.lload_n 0, 1) := by decide +kernel
theorem d_ps_greatestDivisor_1 : decode b_ps_greatestDivisor 1 = .ok (.lstore 4, 2) := by decide +kernel
theorem d_ps_greatestDivisor_3 : decode b_ps_greatestDivisor 3 = .ok (.lload_n 2, 1) := by decide +kernel
theorem d_ps_greatestDivisor_4 : decode b_ps_greatestDivisor 4 = .ok (.lstore 6, 2) := by decide +kernel
theorem d_ps_greatestDivisor_6 : decode b_ps_greatestDivisor 6 = .ok (.iconst 0, 1) := by decide +kernel
theorem d_ps_greatestDivisor_7 : decode b_ps_greatestDivisor 7 = .ok (.istore 8, 2) := by decide +kernel
theorem d_ps_greatestDivisor_9 : decode b_ps_greatestDivisor 9 = .ok (.iload 8, 2) := by decide +kernel
theorem d_ps_greatestDivisor_11 : decode b_ps_greatestDivisor 11 = .ok (.sipush 128, 3) := by decide +kernel
theorem d_ps_greatestDivisor_14 : decode b_ps_greatestDivisor 14 = .ok (.if_icmp .ge 31, 3) := by decide +kernel
theorem d_ps_greatestDivisor_17 : decode b_ps_greatestDivisor 17 = .ok (.lload 6, 2) := by decide +kernel
theorem d_ps_greatestDivisor_19 : decode b_ps_greatestDivisor 19 = .ok (.lconst 0, 1) := by decide +kernel
theorem d_ps_greatestDivisor_20 : decode b_ps_greatestDivisor 20 = .ok (.lcmp, 1) := by decide +kernel
theorem d_ps_greatestDivisor_21 : decode b_ps_greatestDivisor 21 = .ok (.ifCond .eq 24, 3) := by decide +kernel
theorem d_ps_greatestDivisor_24 : decode b_ps_greatestDivisor 24 = .ok (.lload 4, 2) := by decide +kernel
theorem d_ps_greatestDivisor_26 : decode b_ps_greatestDivisor 26 = .ok (.lload 6, 2) := by decide +kernel
theorem d_ps_greatestDivisor_28 : decode b_ps_greatestDivisor 28 = .ok (.lrem, 1) := by decide +kernel
theorem d_ps_greatestDivisor_29 : decode b_ps_greatestDivisor 29 = .ok (.lstore 9, 2) := by decide +kernel
theorem d_ps_greatestDivisor_31 : decode b_ps_greatestDivisor 31 = .ok (.lload 6, 2) := by decide +kernel
theorem d_ps_greatestDivisor_33 : decode b_ps_greatestDivisor 33 = .ok (.lstore 4, 2) := by decide +kernel
theorem d_ps_greatestDivisor_35 : decode b_ps_greatestDivisor 35 = .ok (.lload 9, 2) := by decide +kernel
theorem d_ps_greatestDivisor_37 : decode b_ps_greatestDivisor 37 = .ok (.lstore 6, 2) := by decide +kernel
theorem d_ps_greatestDivisor_39 : decode b_ps_greatestDivisor 39 = .ok (.iinc 8 1, 3) := by decide +kernel
theorem d_ps_greatestDivisor_42 : decode b_ps_greatestDivisor 42 = .ok (.goto (-33), 3) := by decide +kernel
theorem d_ps_greatestDivisor_45 : decode b_ps_greatestDivisor 45 = .ok (.lconst 1, 1) := by decide +kernel
theorem d_ps_greatestDivisor_46 : decode b_ps_greatestDivisor 46 = .ok (.lload 4, 2) := by decide +kernel
theorem d_ps_greatestDivisor_48 : decode b_ps_greatestDivisor 48 = .ok (.invokestatic 211, 3) := by decide +kernel
theorem d_ps_greatestDivisor_51 : decode b_ps_greatestDivisor 51 = .ok (.lreturn, 1) := by decide +kernel
theorem d_mo_init_0 : decode b_mo_init 0 = .ok (.aload_n 0, 1) := by decide +kernel
theorem d_mo_init_1 : decode b_mo_init 1 = .ok (.invokespecial 1, 3) := by decide +kernel
theorem d_mo_init_4 : decode b_mo_init 4 = .ok (.aload_n 0, 1) := by decide +kernel
theorem d_mo_init_5 : decode b_mo_init 5 = .ok (.sipush 768, 3) := by decide +kernel
theorem d_mo_init_8 : decode b_mo_init 8 = .ok (.newarray .int, 2) := by decide +kernel
theorem d_mo_init_10 : decode b_mo_init 10 = .ok (.putfield 7, 3) := by decide +kernel
theorem d_mo_init_13 : decode b_mo_init 13 = .ok (.aload_n 0, 1) := by decide +kernel
theorem d_mo_init_14 : decode b_mo_init 14 = .ok (.sipush 768, 3) := by decide +kernel
theorem d_mo_init_17 : decode b_mo_init 17 = .ok (.newarray .boolean, 2) := by decide +kernel
theorem d_mo_init_19 : decode b_mo_init 19 = .ok (.putfield 13, 3) := by decide +kernel
theorem d_mo_init_22 : decode b_mo_init 22 = .ok (.aload_n 0, 1) := by decide +kernel
theorem d_mo_init_23 : decode b_mo_init 23 = .ok (.sipush 744, 3) := by decide +kernel
theorem d_mo_init_26 : decode b_mo_init 26 = .ok (.newarray .boolean, 2) := by decide +kernel
theorem d_mo_init_28 : decode b_mo_init 28 = .ok (.putfield 17, 3) := by decide +kernel
theorem d_mo_init_31 : decode b_mo_init 31 = .ok (.aload_n 0, 1) := by decide +kernel
theorem d_mo_init_32 : decode b_mo_init 32 = .ok (.bipush 24, 2) := by decide +kernel
theorem d_mo_init_34 : decode b_mo_init 34 = .ok (.newarray .boolean, 2) := by decide +kernel
theorem d_mo_init_36 : decode b_mo_init 36 = .ok (.putfield 20, 3) := by decide +kernel
theorem d_mo_init_39 : decode b_mo_init 39 = .ok (.aload_n 0, 1) := by decide +kernel
theorem d_mo_init_40 : decode b_mo_init 40 = .ok (.bipush 24, 2) := by decide +kernel
theorem d_mo_init_42 : decode b_mo_init 42 = .ok (.newarray .int, 2) := by decide +kernel
theorem d_mo_init_44 : decode b_mo_init 44 = .ok (.putfield 23, 3) := by decide +kernel
theorem d_mo_init_47 : decode b_mo_init 47 = .ok (.aload_n 0, 1) := by decide +kernel
theorem d_mo_init_48 : decode b_mo_init 48 = .ok (.bipush 16, 2) := by decide +kernel
theorem d_mo_init_50 : decode b_mo_init 50 = .ok (.newarray .boolean, 2) := by decide +kernel
theorem d_mo_init_52 : decode b_mo_init 52 = .ok (.putfield 26, 3) := by decide +kernel
theorem d_mo_init_55 : decode b_mo_init 55 = .ok (.aload_n 0, 1) := by decide +kernel
theorem d_mo_init_56 : decode b_mo_init 56 = .ok (.bipush 16, 2) := by decide +kernel
theorem d_mo_init_58 : decode b_mo_init 58 = .ok (.newarray .int, 2) := by decide +kernel
theorem d_mo_init_60 : decode b_mo_init 60 = .ok (.putfield 29, 3) := by decide +kernel
theorem d_mo_init_63 : decode b_mo_init 63 = .ok (.aload_n 0, 1) := by decide +kernel
theorem d_mo_init_64 : decode b_mo_init 64 = .ok (.iload_n 1, 1) := by decide +kernel
theorem d_mo_init_65 : decode b_mo_init 65 = .ok (.iconst 1, 1) := by decide +kernel
theorem d_mo_init_66 : decode b_mo_init 66 = .ok (.if_icmp .ge 7, 3) := by decide +kernel
theorem d_mo_init_69 : decode b_mo_init 69 = .ok (.iconst 1, 1) := by decide +kernel
theorem d_mo_init_70 : decode b_mo_init 70 = .ok (.goto 13, 3) := by decide +kernel
theorem d_mo_init_73 : decode b_mo_init 73 = .ok (.iload_n 1, 1) := by decide +kernel
theorem d_mo_init_74 : decode b_mo_init 74 = .ok (.iconst 4, 1) := by decide +kernel
theorem d_mo_init_75 : decode b_mo_init 75 = .ok (.if_icmp .le 7, 3) := by decide +kernel
theorem d_mo_init_78 : decode b_mo_init 78 = .ok (.iconst 4, 1) := by decide +kernel
theorem d_mo_init_79 : decode b_mo_init 79 = .ok (.goto 4, 3) := by decide +kernel
theorem d_mo_init_82 : decode b_mo_init 82 = .ok (.iload_n 1, 1) := by decide +kernel
theorem d_mo_init_83 : decode b_mo_init 83 = .ok (.putfield 32, 3) := by decide +kernel
theorem d_mo_init_86 : decode b_mo_init 86 = .ok (.aload_n 0, 1) := by decide +kernel
theorem d_mo_init_87 : decode b_mo_init 87 = .ok (.iload_n 2, 1) := by decide +kernel
theorem d_mo_init_88 : decode b_mo_init 88 = .ok (.iconst 1, 1) := by decide +kernel
theorem d_mo_init_89 : decode b_mo_init 89 = .ok (.if_icmp .ge 7, 3) := by decide +kernel
theorem d_mo_init_92 : decode b_mo_init 92 = .ok (.iconst 1, 1) := by decide +kernel
theorem d_mo_init_93 : decode b_mo_init 93 = .ok (.goto 15, 3) := by decide +kernel
theorem d_mo_init_96 : decode b_mo_init 96 = .ok (.iload_n 2, 1) := by decide +kernel
theorem d_mo_init_97 : decode b_mo_init 97 = .ok (.bipush 8, 2) := by decide +kernel
theorem d_mo_init_99 : decode b_mo_init 99 = .ok (.if_icmp .le 8, 3) := by decide +kernel
theorem d_mo_init_102 : decode b_mo_init 102 = .ok (.bipush 8, 2) := by decide +kernel
theorem d_mo_init_104 : decode b_mo_init 104 = .ok (.goto 4, 3) := by decide +kernel
theorem d_mo_init_107 : decode b_mo_init 107 = .ok (.iload_n 2, 1) := by decide +kernel
theorem d_mo_init_108 : decode b_mo_init 108 = .ok (.putfield 36, 3) := by decide +kernel
theorem d_mo_init_111 : decode b_mo_init 111 = .ok (.aload_n 0, 1) := by decide +kernel
theorem d_mo_init_112 : decode b_mo_init 112 = .ok (.bipush 8, 2) := by decide +kernel
theorem d_mo_init_114 : decode b_mo_init 114 = .ok (.putfield 39, 3) := by decide +kernel
theorem d_mo_init_117 : decode b_mo_init 117 = .ok (.aload_n 0, 1) := by decide +kernel
theorem d_mo_init_118 : decode b_mo_init 118 = .ok (.getfield 26, 3) := by decide +kernel
theorem d_mo_init_121 : decode b_mo_init 121 = .ok (.bipush 7, 2) := by decide +kernel
theorem d_mo_init_123 : decode b_mo_init 123 = .ok (.iconst 1, 1) := by decide +kernel
theorem d_mo_init_124 : decode b_mo_init 124 = .ok (.bastore, 1) := by decide +kernel
theorem d_mo_init_125 : decode b_mo_init 125 = .ok (.return_, 1) := by decide +kernel
theorem d_mo_thrown_0 : decode b_mo_thrown 0 = .ok (.aload_n 0, 1) := by decide +kernel
theorem d_mo_thrown_1 : decode b_mo_thrown 1 = .ok (.getfield 42, 3) := by decide +kernel
theorem d_mo_thrown_4 : decode b_mo_thrown 4 = .ok (.ireturn, 1) := by decide +kernel
theorem d_mo_is_0 : decode b_mo_is 0 = .ok (.iload_n 1, 1) := by decide +kernel
theorem d_mo_is_1 : decode b_mo_is 1 = .ok (.ifCond .lt 24, 3) := by decide +kernel
theorem d_mo_is_4 : decode b_mo_is 4 = .ok (.iload_n 1, 1) := by decide +kernel
theorem d_mo_is_5 : decode b_mo_is 5 = .ok (.aload_n 0, 1) := by decide +kernel
theorem d_mo_is_6 : decode b_mo_is 6 = .ok (.getfield 45, 3) := by decide +kernel
theorem d_mo_is_9 : decode b_mo_is 9 = .ok (.if_icmp .ge 16, 3) := by decide +kernel
theorem d_mo_is_12 : decode b_mo_is 12 = .ok (.aload_n 0, 1) := by decide +kernel
theorem d_mo_is_13 : decode b_mo_is 13 = .ok (.getfield 20, 3) := by decide +kernel
theorem d_mo_is_16 : decode b_mo_is 16 = .ok (.iload_n 1, 1) := by decide +kernel
theorem d_mo_is_17 : decode b_mo_is 17 = .ok (.baload, 1) := by decide +kernel
theorem d_mo_is_18 : decode b_mo_is 18 = .ok (.ifCond .ne 7, 3) := by decide +kernel
theorem d_mo_is_21 : decode b_mo_is 21 = .ok (.iconst 1, 1) := by decide +kernel
theorem d_mo_is_22 : decode b_mo_is 22 = .ok (.goto 4, 3) := by decide +kernel
theorem d_mo_is_25 : decode b_mo_is 25 = .ok (.iconst 0, 1) := by decide +kernel
theorem d_mo_is_26 : decode b_mo_is 26 = .ok (.ireturn, 1) := by decide +kernel
