theorem d_sh_init_0 : decode b_sh_init 0 = .ok (.aload_n 0, 1) := by decide +kernel
theorem d_sh_init_1 : decode b_sh_init 1 = .ok (.invokespecial 3, 3) := by decide +kernel
theorem d_sh_init_4 : decode b_sh_init 4 = .ok (.aload_n 0, 1) := by decide +kernel
theorem d_sh_init_5 : decode b_sh_init 5 = .ok (.iconst 4, 1) := by decide +kernel
theorem d_sh_init_6 : decode b_sh_init 6 = .ok (.iconst 1, 1) := by decide +kernel
theorem d_sh_init_7 : decode b_sh_init 7 = .ok (.iload_n 1, 1) := by decide +kernel
theorem d_sh_init_8 : decode b_sh_init 8 = .ok (.invokestatic 9, 3) := by decide +kernel
theorem d_sh_init_11 : decode b_sh_init 11 = .ok (.invokestatic 15, 3) := by decide +kernel
theorem d_sh_init_14 : decode b_sh_init 14 = .ok (.putfield 18, 3) := by decide +kernel
theorem d_sh_init_17 : decode b_sh_init 17 = .ok (.aload_n 0, 1) := by decide +kernel
theorem d_sh_init_18 : decode b_sh_init 18 = .ok (.bipush 8, 2) := by decide +kernel
theorem d_sh_init_20 : decode b_sh_init 20 = .ok (.iconst 1, 1) := by decide +kernel
theorem d_sh_init_21 : decode b_sh_init 21 = .ok (.iload_n 2, 1) := by decide +kernel
theorem d_sh_init_22 : decode b_sh_init 22 = .ok (.invokestatic 9, 3) := by decide +kernel
theorem d_sh_init_25 : decode b_sh_init 25 = .ok (.invokestatic 15, 3) := by decide +kernel
theorem d_sh_init_28 : decode b_sh_init 28 = .ok (.putfield 24, 3) := by decide +kernel
theorem d_sh_init_31 : decode b_sh_init 31 = .ok (.return_, 1) := by decide +kernel
theorem d_la_cell_0 : decode b_la_cell 0 = .ok (.iload_n 1, 1) := by decide +kernel
theorem d_la_cell_1 : decode b_la_cell 1 = .ok (.aload_n 0, 1) := by decide +kernel
theorem d_la_cell_2 : decode b_la_cell 2 = .ok (.arraylength, 1) := by decide +kernel
theorem d_la_cell_3 : decode b_la_cell 3 = .ok (.if_icmp .ge 9, 3) := by decide +kernel
theorem d_la_cell_6 : decode b_la_cell 6 = .ok (.aload_n 0, 1) := by decide +kernel
theorem d_la_cell_7 : decode b_la_cell 7 = .ok (.iload_n 1, 1) := by decide +kernel
theorem d_la_cell_8 : decode b_la_cell 8 = .ok (.iaload, 1) := by decide +kernel
theorem d_la_cell_9 : decode b_la_cell 9 = .ok (.goto 4, 3) := by decide +kernel
theorem d_la_cell_12 : decode b_la_cell 12 = .ok (.iconst 0, 1) := by decide +kernel
theorem d_la_cell_13 : decode b_la_cell 13 = .ok (.ireturn, 1) := by decide +kernel
theorem d_la_pattern_0 : decode b_la_pattern 0 = .ok (.aload_n 1, 1) := by decide +kernel
theorem d_la_pattern_1 : decode b_la_pattern 1 = .ok (.iconst 0, 1) := by decide +kernel
theorem d_la_pattern_2 : decode b_la_pattern 2 = .ok (.aload_n 0, 1) := by decide +kernel
theorem d_la_pattern_3 : decode b_la_pattern 3 = .ok (.invokevirtual 7, 3) := by decide +kernel
theorem d_la_pattern_6 : decode b_la_pattern 6 = .ok (.i2l, 1) := by decide +kernel
theorem d_la_pattern_7 : decode b_la_pattern 7 = .ok (.lastore, 1) := by decide +kernel
theorem d_la_pattern_8 : decode b_la_pattern 8 = .ok (.goto 6, 3) := by decide +kernel
theorem d_la_pattern_11 : decode b_la_pattern 11 = .ok (.astore_n 2, 1) := by decide +kernel
theorem d_la_pattern_12 : decode b_la_pattern 12 = .ok (.iconst 1, 1) := by decide +kernel
theorem d_la_pattern_13 : decode b_la_pattern 13 = .ok (.ireturn, 1) := by decide +kernel
theorem d_la_pattern_14 : decode b_la_pattern 14 = .ok (.iconst 0, 1) := by decide +kernel
theorem d_la_pattern_15 : decode b_la_pattern 15 = .ok (.ireturn, 1) := by decide +kernel
theorem d_la_care_0 : decode b_la_care 0 = .ok (.aload 5, 2) := by decide +kernel
theorem d_la_care_2 : decode b_la_care 2 = .ok (.iconst 0, 1) := by decide +kernel
theorem d_la_care_3 : decode b_la_care 3 = .ok (.aload_n 0, 1) := by decide +kernel
theorem d_la_care_4 : decode b_la_care 4 = .ok (.iload_n 1, 1) := by decide +kernel
theorem d_la_care_5 : decode b_la_care 5 = .ok (.iload_n 2, 1) := by decide +kernel
theorem d_la_care_6 : decode b_la_care 6 = .ok (.iload_n 3, 1) := by decide +kernel
theorem d_la_care_7 : decode b_la_care 7 = .ok (.iload 4, 2) := by decide +kernel
theorem d_la_care_9 : decode b_la_care 9 = .ok (.invokevirtual 15, 3) := by decide +kernel
theorem d_la_care_12 : decode b_la_care 12 = .ok (.ifCond .eq 7, 3) := by decide +kernel
theorem d_la_care_15 : decode b_la_care 15 = .ok (.lconst 1, 1) := by decide +kernel
theorem d_la_care_16 : decode b_la_care 16 = .ok (.goto 4, 3) := by decide +kernel
theorem d_la_care_19 : decode b_la_care 19 = .ok (.lconst 0, 1) := by decide +kernel
theorem d_la_care_20 : decode b_la_care 20 = .ok (.lastore, 1) := by decide +kernel
theorem d_la_care_21 : decode b_la_care 21 = .ok (.goto 11, 3) := by decide +kernel
theorem d_la_care_24 : decode b_la_care 24 = .ok (.astore 6, 2) := by decide +kernel
theorem d_la_care_26 : decode b_la_care 26 = .ok (.iconst 1, 1) := by decide +kernel
theorem d_la_care_27 : decode b_la_care 27 = .ok (.ireturn, 1) := by decide +kernel
theorem d_la_care_28 : decode b_la_care 28 = .ok (.astore 6, 2) := by decide +kernel
theorem d_la_care_30 : decode b_la_care 30 = .ok (.iconst 2, 1) := by decide +kernel
theorem d_la_care_31 : decode b_la_care 31 = .ok (.ireturn, 1) := by decide +kernel
theorem d_la_care_32 : decode b_la_care 32 = .ok (.iconst 0, 1) := by decide +kernel
theorem d_la_care_33 : decode b_la_care 33 = .ok (.ireturn, 1) := by decide +kernel
theorem d_la_degree_0 : decode b_la_degree 0 = .ok (.aload_n 0, 1) := by decide +kernel
theorem d_la_degree_1 : decode b_la_degree 1 = .ok (.iload_n 1, 1) := by decide +kernel
theorem d_la_degree_2 : decode b_la_degree 2 = .ok (.invokevirtual 23, 3) := by decide +kernel
theorem d_la_degree_5 : decode b_la_degree 5 = .ok (.goto 6, 3) := by decide +kernel
theorem d_la_degree_8 : decode b_la_degree 8 = .ok (.astore_n 2, 1) := by decide +kernel
theorem d_la_degree_9 : decode b_la_degree 9 = .ok (.iconst 1, 1) := by decide +kernel
theorem d_la_degree_10 : decode b_la_degree 10 = .ok (.ireturn, 1) := by decide +kernel
theorem d_la_degree_11 : decode b_la_degree 11 = .ok (.iconst 0, 1) := by decide +kernel
theorem d_la_degree_12 : decode b_la_degree 12 = .ok (.ireturn, 1) := by decide +kernel
theorem d_la_machine_0 : decode b_la_machine 0 = .ok (.aload_n 3, 1) := by decide +kernel
theorem d_la_machine_1 : decode b_la_machine 1 = .ok (.iconst 0, 1) := by decide +kernel
theorem d_la_machine_2 : decode b_la_machine 2 = .ok (.aload_n 0, 1) := by decide +kernel
theorem d_la_machine_3 : decode b_la_machine 3 = .ok (.iload_n 1, 1) := by decide +kernel
theorem d_la_machine_4 : decode b_la_machine 4 = .ok (.iload_n 2, 1) := by decide +kernel
theorem d_la_machine_5 : decode b_la_machine 5 = .ok (.invokevirtual 27, 3) := by decide +kernel
theorem d_la_machine_8 : decode b_la_machine 8 = .ok (.ifCond .eq 7, 3) := by decide +kernel
theorem d_la_machine_11 : decode b_la_machine 11 = .ok (.lconst 1, 1) := by decide +kernel
theorem d_la_machine_12 : decode b_la_machine 12 = .ok (.goto 4, 3) := by decide +kernel
theorem d_la_machine_15 : decode b_la_machine 15 = .ok (.lconst 0, 1) := by decide +kernel
theorem d_la_machine_16 : decode b_la_machine 16 = .ok (.lastore, 1) := by decide +kernel
theorem d_la_machine_17 : decode b_la_machine 17 = .ok (.goto 11, 3) := by decide +kernel
theorem d_la_machine_20 : decode b_la_machine 20 = .ok (.astore 4, 2) := by decide +kernel
theorem d_la_machine_22 : decode b_la_machine 22 = .ok (.iconst 1, 1) := by decide +kernel
theorem d_la_machine_23 : decode b_la_machine 23 = .ok (.ireturn, 1) := by decide +kernel
theorem d_la_machine_24 : decode b_la_machine 24 = .ok (.astore 4, 2) := by decide +kernel
theorem d_la_machine_26 : decode b_la_machine 26 = .ok (.iconst 2, 1) := by decide +kernel
theorem d_la_machine_27 : decode b_la_machine 27 = .ok (.ireturn, 1) := by decide +kernel
theorem d_la_machine_28 : decode b_la_machine 28 = .ok (.iconst 0, 1) := by decide +kernel
theorem d_la_machine_29 : decode b_la_machine 29 = .ok (.ireturn, 1) := by decide +kernel
theorem d_la_seed_0 : decode b_la_seed 0 = .ok (.aload_n 2, 1) := by decide +kernel
theorem d_la_seed_1 : decode b_la_seed 1 = .ok (.iconst 0, 1) := by decide +kernel
theorem d_la_seed_2 : decode b_la_seed 2 = .ok (.aload_n 0, 1) := by decide +kernel
theorem d_la_seed_3 : decode b_la_seed 3 = .ok (.iload_n 1, 1) := by decide +kernel
theorem d_la_seed_4 : decode b_la_seed 4 = .ok (.invokevirtual 31, 3) := by decide +kernel
theorem d_la_seed_7 : decode b_la_seed 7 = .ok (.i2l, 1) := by decide +kernel
theorem d_la_seed_8 : decode b_la_seed 8 = .ok (.lastore, 1) := by decide +kernel
theorem d_la_seed_9 : decode b_la_seed 9 = .ok (.goto 6, 3) := by decide +kernel
theorem d_la_seed_12 : decode b_la_seed 12 = .ok (.astore_n 3, 1) := by decide +kernel
theorem d_la_seed_13 : decode b_la_seed 13 = .ok (.iconst 1, 1) := by decide +kernel
theorem d_la_seed_14 : decode b_la_seed 14 = .ok (.ireturn, 1) := by decide +kernel
theorem d_la_seed_15 : decode b_la_seed 15 = .ok (.iconst 0, 1) := by decide +kernel
theorem d_la_seed_16 : decode b_la_seed 16 = .ok (.ireturn, 1) := by decide +kernel
theorem d_la_seedOf_0 : decode b_la_seedOf 0 = .ok (.aload_n 2, 1) := by decide +kernel
theorem d_la_seedOf_1 : decode b_la_seedOf 1 = .ok (.iconst 0, 1) := by decide +kernel
theorem d_la_seedOf_2 : decode b_la_seedOf 2 = .ok (.aload_n 0, 1) := by decide +kernel
theorem d_la_seedOf_3 : decode b_la_seedOf 3 = .ok (.iload_n 1, 1) := by decide +kernel
theorem d_la_seedOf_4 : decode b_la_seedOf 4 = .ok (.invokevirtual 35, 3) := by decide +kernel
theorem d_la_seedOf_7 : decode b_la_seedOf 7 = .ok (.i2l, 1) := by decide +kernel
theorem d_la_seedOf_8 : decode b_la_seedOf 8 = .ok (.lastore, 1) := by decide +kernel
theorem d_la_seedOf_9 : decode b_la_seedOf 9 = .ok (.goto 6, 3) := by decide +kernel
theorem d_la_seedOf_12 : decode b_la_seedOf 12 = .ok (.astore_n 3, 1) := by decide +kernel
theorem d_la_seedOf_13 : decode b_la_seedOf 13 = .ok (.iconst 1, 1) := by decide +kernel
theorem d_la_seedOf_14 : decode b_la_seedOf 14 = .ok (.ireturn, 1) := by decide +kernel
theorem d_la_seedOf_15 : decode b_la_seedOf 15 = .ok (.iconst 0, 1) := by decide +kernel
theorem d_la_seedOf_16 : decode b_la_seedOf 16 = .ok (.ireturn, 1) := by decide +kernel
theorem d_la_bit_0 : decode b_la_bit 0 = .ok (.aload 4, 2) := by decide +kernel
theorem d_la_bit_2 : decode b_la_bit 2 = .ok (.iconst 0, 1) := by decide +kernel
theorem d_la_bit_3 : decode b_la_bit 3 = .ok (.aload_n 0, 1) := by decide +kernel
theorem d_la_bit_4 : decode b_la_bit 4 = .ok (.iload_n 1, 1) := by decide +kernel
theorem d_la_bit_5 : decode b_la_bit 5 = .ok (.iload_n 2, 1) := by decide +kernel
theorem d_la_bit_6 : decode b_la_bit 6 = .ok (.iload_n 3, 1) := by decide +kernel
theorem d_la_bit_7 : decode b_la_bit 7 = .ok (.invokevirtual 38, 3) := by decide +kernel
theorem d_la_bit_10 : decode b_la_bit 10 = .ok (.i2l, 1) := by decide +kernel
theorem d_la_bit_11 : decode b_la_bit 11 = .ok (.lastore, 1) := by decide +kernel
theorem d_la_bit_12 : decode b_la_bit 12 = .ok (.goto 7, 3) := by decide +kernel
theorem d_la_bit_15 : decode b_la_bit 15 = .ok (.astore 5, 2) := by decide +kernel
theorem d_la_bit_17 : decode b_la_bit 17 = .ok (.iconst 1, 1) := by decide +kernel
theorem d_la_bit_18 : decode b_la_bit 18 = .ok (.ireturn, 1) := by decide +kernel
theorem d_la_bit_19 : decode b_la_bit 19 = .ok (.iconst 0, 1) := by decide +kernel
theorem d_la_bit_20 : decode b_la_bit 20 = .ok (.ireturn, 1) := by decide +kernel
theorem d_la_found_0 : decode b_la_found 0 = .ok (.aload_n 3, 1) := by decide +kernel
theorem d_la_found_1 : decode b_la_found 1 = .ok (.iconst 0, 1) := by decide +kernel
theorem d_la_found_2 : decode b_la_found 2 = .ok (.aload_n 0, 1) := by decide +kernel
theorem d_la_found_3 : decode b_la_found 3 = .ok (.iload_n 1, 1) := by decide +kernel
theorem d_la_found_4 : decode b_la_found 4 = .ok (.iload_n 2, 1) := by decide +kernel
theorem d_la_found_5 : decode b_la_found 5 = .ok (.invokevirtual 42, 3) := by decide +kernel
theorem d_la_found_8 : decode b_la_found 8 = .ok (.ifCond .eq 7, 3) := by decide +kernel
theorem d_la_found_11 : decode b_la_found 11 = .ok (.lconst 1, 1) := by decide +kernel
theorem d_la_found_12 : decode b_la_found 12 = .ok (.goto 4, 3) := by decide +kernel
theorem d_la_found_15 : decode b_la_found 15 = .ok (.lconst 0, 1) := by decide +kernel
theorem d_la_found_16 : decode b_la_found 16 = .ok (.lastore, 1) := by decide +kernel
theorem d_la_found_17 : decode b_la_found 17 = .ok (.goto 7, 3) := by decide +kernel
theorem d_la_found_20 : decode b_la_found 20 = .ok (.astore 4, 2) := by decide +kernel
theorem d_la_found_22 : decode b_la_found 22 = .ok (.iconst 1, 1) := by decide +kernel
theorem d_la_found_23 : decode b_la_found 23 = .ok (.ireturn, 1) := by decide +kernel
theorem d_la_found_24 : decode b_la_found 24 = .ok (.iconst 0, 1) := by decide +kernel
theorem d_la_found_25 : decode b_la_found 25 = .ok (.ireturn, 1) := by decide +kernel
theorem d_la_finders_0 : decode b_la_finders 0 = .ok (.aload_n 2, 1) := by decide +kernel
theorem d_la_finders_1 : decode b_la_finders 1 = .ok (.iconst 0, 1) := by decide +kernel
theorem d_la_finders_2 : decode b_la_finders 2 = .ok (.aload_n 0, 1) := by decide +kernel
theorem d_la_finders_3 : decode b_la_finders 3 = .ok (.iload_n 1, 1) := by decide +kernel
theorem d_la_finders_4 : decode b_la_finders 4 = .ok (.invokevirtual 46, 3) := by decide +kernel
theorem d_la_finders_7 : decode b_la_finders 7 = .ok (.i2l, 1) := by decide +kernel
theorem d_la_finders_8 : decode b_la_finders 8 = .ok (.lastore, 1) := by decide +kernel
theorem d_la_finders_9 : decode b_la_finders 9 = .ok (.goto 6, 3) := by decide +kernel
theorem d_la_finders_12 : decode b_la_finders 12 = .ok (.astore_n 3, 1) := by decide +kernel
theorem d_la_finders_13 : decode b_la_finders 13 = .ok (.iconst 1, 1) := by decide +kernel
theorem d_la_finders_14 : decode b_la_finders 14 = .ok (.ireturn, 1) := by decide +kernel
theorem d_la_finders_15 : decode b_la_finders 15 = .ok (.iconst 0, 1) := by decide +kernel
theorem d_la_finders_16 : decode b_la_finders 16 = .ok (.ireturn, 1) := by decide +kernel
theorem d_la_mask_0 : decode b_la_mask 0 = .ok (.aload 4, 2) := by decide +kernel
theorem d_la_mask_2 : decode b_la_mask 2 = .ok (.iconst 0, 1) := by decide +kernel
theorem d_la_mask_3 : decode b_la_mask 3 = .ok (.aload_n 0, 1) := by decide +kernel
theorem d_la_mask_4 : decode b_la_mask 4 = .ok (.iload_n 1, 1) := by decide +kernel
theorem d_la_mask_5 : decode b_la_mask 5 = .ok (.iload_n 2, 1) := by decide +kernel
theorem d_la_mask_6 : decode b_la_mask 6 = .ok (.iload_n 3, 1) := by decide +kernel
theorem d_la_mask_7 : decode b_la_mask 7 = .ok (.invokevirtual 49, 3) := by decide +kernel
theorem d_la_mask_10 : decode b_la_mask 10 = .ok (.ifCond .eq 7, 3) := by decide +kernel
theorem d_la_mask_13 : decode b_la_mask 13 = .ok (.lconst 1, 1) := by decide +kernel
theorem d_la_mask_14 : decode b_la_mask 14 = .ok (.goto 4, 3) := by decide +kernel
theorem d_la_mask_17 : decode b_la_mask 17 = .ok (.lconst 0, 1) := by decide +kernel
theorem d_la_mask_18 : decode b_la_mask 18 = .ok (.lastore, 1) := by decide +kernel
theorem d_la_mask_19 : decode b_la_mask 19 = .ok (.goto 7, 3) := by decide +kernel
theorem d_la_mask_22 : decode b_la_mask 22 = .ok (.astore 5, 2) := by decide +kernel
theorem d_la_mask_24 : decode b_la_mask 24 = .ok (.iconst 1, 1) := by decide +kernel
theorem d_la_mask_25 : decode b_la_mask 25 = .ok (.ireturn, 1) := by decide +kernel
theorem d_la_mask_26 : decode b_la_mask 26 = .ok (.iconst 0, 1) := by decide +kernel
theorem d_la_mask_27 : decode b_la_mask 27 = .ok (.ireturn, 1) := by decide +kernel
theorem d_la_signature_0 : decode b_la_signature 0 = .ok (.aload_n 3, 1) := by decide +kernel
theorem d_la_signature_1 : decode b_la_signature 1 = .ok (.iconst 0, 1) := by decide +kernel
theorem d_la_signature_2 : decode b_la_signature 2 = .ok (.aload_n 0, 1) := by decide +kernel
theorem d_la_signature_3 : decode b_la_signature 3 = .ok (.iload_n 1, 1) := by decide +kernel
theorem d_la_signature_4 : decode b_la_signature 4 = .ok (.iload_n 2, 1) := by decide +kernel
theorem d_la_signature_5 : decode b_la_signature 5 = .ok (.invokevirtual 53, 3) := by decide +kernel
theorem d_la_signature_8 : decode b_la_signature 8 = .ok (.lastore, 1) := by decide +kernel
theorem d_la_signature_9 : decode b_la_signature 9 = .ok (.goto 7, 3) := by decide +kernel
theorem d_la_signature_12 : decode b_la_signature 12 = .ok (.astore 4, 2) := by decide +kernel
theorem d_la_signature_14 : decode b_la_signature 14 = .ok (.iconst 1, 1) := by decide +kernel
theorem d_la_signature_15 : decode b_la_signature 15 = .ok (.ireturn, 1) := by decide +kernel
theorem d_la_signature_16 : decode b_la_signature 16 = .ok (.iconst 0, 1) := by decide +kernel
theorem d_la_signature_17 : decode b_la_signature 17 = .ok (.ireturn, 1) := by decide +kernel
theorem d_la_alias_0 : decode b_la_alias 0 = .ok (.aload_n 3, 1) := by decide +kernel
theorem d_la_alias_1 : decode b_la_alias 1 = .ok (.iconst 0, 1) := by decide +kernel
theorem d_la_alias_2 : decode b_la_alias 2 = .ok (.aload_n 0, 1) := by decide +kernel
theorem d_la_alias_3 : decode b_la_alias 3 = .ok (.iload_n 1, 1) := by decide +kernel
theorem d_la_alias_4 : decode b_la_alias 4 = .ok (.iload_n 2, 1) := by decide +kernel
theorem d_la_alias_5 : decode b_la_alias 5 = .ok (.invokevirtual 57, 3) := by decide +kernel
theorem d_la_alias_8 : decode b_la_alias 8 = .ok (.lastore, 1) := by decide +kernel
theorem d_la_alias_9 : decode b_la_alias 9 = .ok (.goto 7, 3) := by decide +kernel
theorem d_la_alias_12 : decode b_la_alias 12 = .ok (.astore 4, 2) := by decide +kernel
theorem d_la_alias_14 : decode b_la_alias 14 = .ok (.iconst 1, 1) := by decide +kernel
theorem d_la_alias_15 : decode b_la_alias 15 = .ok (.ireturn, 1) := by decide +kernel
theorem d_la_alias_16 : decode b_la_alias 16 = .ok (.iconst 0, 1) := by decide +kernel
theorem d_la_alias_17 : decode b_la_alias 17 = .ok (.ireturn, 1) := by decide +kernel
theorem d_la_fill_0 : decode b_la_fill 0 = .ok (.aload_n 2, 1) := by decide +kernel
theorem d_la_fill_1 : decode b_la_fill 1 = .ok (.iconst 0, 1) := by decide +kernel
theorem d_la_fill_2 : decode b_la_fill 2 = .ok (.aload_n 0, 1) := by decide +kernel
theorem d_la_fill_3 : decode b_la_fill 3 = .ok (.iload_n 1, 1) := by decide +kernel
theorem d_la_fill_4 : decode b_la_fill 4 = .ok (.invokevirtual 60, 3) := by decide +kernel
theorem d_la_fill_7 : decode b_la_fill 7 = .ok (.ifCond .eq 7, 3) := by decide +kernel
theorem d_la_fill_10 : decode b_la_fill 10 = .ok (.lconst 1, 1) := by decide +kernel
theorem d_la_fill_11 : decode b_la_fill 11 = .ok (.goto 4, 3) := by decide +kernel
theorem d_la_fill_14 : decode b_la_fill 14 = .ok (.lconst 0, 1) := by decide +kernel
theorem d_la_fill_15 : decode b_la_fill 15 = .ok (.lastore, 1) := by decide +kernel
theorem d_la_fill_16 : decode b_la_fill 16 = .ok (.goto 6, 3) := by decide +kernel
theorem d_la_fill_19 : decode b_la_fill 19 = .ok (.astore_n 3, 1) := by decide +kernel
theorem d_la_fill_20 : decode b_la_fill 20 = .ok (.iconst 1, 1) := by decide +kernel
theorem d_la_fill_21 : decode b_la_fill 21 = .ok (.ireturn, 1) := by decide +kernel
theorem d_la_fill_22 : decode b_la_fill 22 = .ok (.iconst 0, 1) := by decide +kernel
theorem d_la_fill_23 : decode b_la_fill 23 = .ok (.ireturn, 1) := by decide +kernel
theorem d_la_shifts_0 : decode b_la_shifts 0 = .ok (.aload_n 2, 1) := by decide +kernel
theorem d_la_shifts_1 : decode b_la_shifts 1 = .ok (.iconst 0, 1) := by decide +kernel
theorem d_la_shifts_2 : decode b_la_shifts 2 = .ok (.aload_n 0, 1) := by decide +kernel
theorem d_la_shifts_3 : decode b_la_shifts 3 = .ok (.iload_n 1, 1) := by decide +kernel
theorem d_la_shifts_4 : decode b_la_shifts 4 = .ok (.invokevirtual 64, 3) := by decide +kernel
theorem d_la_shifts_7 : decode b_la_shifts 7 = .ok (.lastore, 1) := by decide +kernel
theorem d_la_shifts_8 : decode b_la_shifts 8 = .ok (.goto 6, 3) := by decide +kernel
theorem d_la_shifts_11 : decode b_la_shifts 11 = .ok (.astore_n 3, 1) := by decide +kernel
theorem d_la_shifts_12 : decode b_la_shifts 12 = .ok (.iconst 1, 1) := by decide +kernel
theorem d_la_shifts_13 : decode b_la_shifts 13 = .ok (.ireturn, 1) := by decide +kernel
theorem d_la_shifts_14 : decode b_la_shifts 14 = .ok (.iconst 0, 1) := by decide +kernel
theorem d_la_shifts_15 : decode b_la_shifts 15 = .ok (.ireturn, 1) := by decide +kernel
theorem d_la_count_0 : decode b_la_count 0 = .ok (.aload_n 2, 1) := by decide +kernel
theorem d_la_count_1 : decode b_la_count 1 = .ok (.iconst 0, 1) := by decide +kernel
theorem d_la_count_2 : decode b_la_count 2 = .ok (.aload_n 0, 1) := by decide +kernel
theorem d_la_count_3 : decode b_la_count 3 = .ok (.iload_n 1, 1) := by decide +kernel
theorem d_la_count_4 : decode b_la_count 4 = .ok (.invokevirtual 68, 3) := by decide +kernel
theorem d_la_count_7 : decode b_la_count 7 = .ok (.i2l, 1) := by decide +kernel
theorem d_la_count_8 : decode b_la_count 8 = .ok (.lastore, 1) := by decide +kernel
theorem d_la_count_9 : decode b_la_count 9 = .ok (.goto 6, 3) := by decide +kernel
theorem d_la_count_12 : decode b_la_count 12 = .ok (.astore_n 3, 1) := by decide +kernel
theorem d_la_count_13 : decode b_la_count 13 = .ok (.iconst 1, 1) := by decide +kernel
theorem d_la_count_14 : decode b_la_count 14 = .ok (.ireturn, 1) := by decide +kernel
theorem d_la_count_15 : decode b_la_count 15 = .ok (.iconst 0, 1) := by decide +kernel
theorem d_la_count_16 : decode b_la_count 16 = .ok (.ireturn, 1) := by decide +kernel
theorem d_la_law_0 : decode code 0 = .ok (.new 8, 3) := by decide +kernel
