theorem d_L_cell_0 : decode b_L_cell 0 = .ok (.iload_n 1, 1) := by decide +kernel
theorem d_L_cell_1 : decode b_L_cell 1 = .ok (.aload_n 0, 1) := by decide +kernel
theorem d_L_cell_2 : decode b_L_cell 2 = .ok (.arraylength, 1) := by decide +kernel
theorem d_L_cell_3 : decode b_L_cell 3 = .ok (.if_icmp .ge 9, 3) := by decide +kernel
theorem d_L_cell_6 : decode b_L_cell 6 = .ok (.aload_n 0, 1) := by decide +kernel
theorem d_L_cell_7 : decode b_L_cell 7 = .ok (.iload_n 1, 1) := by decide +kernel
theorem d_L_cell_8 : decode b_L_cell 8 = .ok (.iaload, 1) := by decide +kernel
theorem d_L_cell_9 : decode b_L_cell 9 = .ok (.goto 4, 3) := by decide +kernel
theorem d_L_cell_12 : decode b_L_cell 12 = .ok (.iconst 0, 1) := by decide +kernel
theorem d_L_cell_13 : decode b_L_cell 13 = .ok (.ireturn, 1) := by decide +kernel
theorem d_L_begin_0 : decode b_L_begin 0 = .ok (.aload_n 0, 1) := by decide +kernel
theorem d_L_begin_1 : decode b_L_begin 1 = .ok (.iload_n 1, 1) := by decide +kernel
theorem d_L_begin_2 : decode b_L_begin 2 = .ok (.iload_n 2, 1) := by decide +kernel
theorem d_L_begin_3 : decode b_L_begin 3 = .ok (.iload_n 3, 1) := by decide +kernel
theorem d_L_begin_4 : decode b_L_begin 4 = .ok (.invokevirtual 7, 3) := by decide +kernel
theorem d_L_begin_7 : decode b_L_begin 7 = .ok (.goto 7, 3) := by decide +kernel
theorem d_L_begin_10 : decode b_L_begin 10 = .ok (.astore 4, 2) := by decide +kernel
theorem d_L_begin_12 : decode b_L_begin 12 = .ok (.iconst 1, 1) := by decide +kernel
theorem d_L_begin_13 : decode b_L_begin 13 = .ok (.ireturn, 1) := by decide +kernel
theorem d_L_begin_14 : decode b_L_begin 14 = .ok (.iconst 0, 1) := by decide +kernel
theorem d_L_begin_15 : decode b_L_begin 15 = .ok (.ireturn, 1) := by decide +kernel
theorem d_L_coefficient_0 : decode b_L_coefficient 0 = .ok (.aload_n 0, 1) := by decide +kernel
theorem d_L_coefficient_1 : decode b_L_coefficient 1 = .ok (.iload_n 1, 1) := by decide +kernel
theorem d_L_coefficient_2 : decode b_L_coefficient 2 = .ok (.iload_n 2, 1) := by decide +kernel
theorem d_L_coefficient_3 : decode b_L_coefficient 3 = .ok (.iload_n 3, 1) := by decide +kernel
theorem d_L_coefficient_4 : decode b_L_coefficient 4 = .ok (.invokevirtual 15, 3) := by decide +kernel
theorem d_L_coefficient_7 : decode b_L_coefficient 7 = .ok (.goto 11, 3) := by decide +kernel
theorem d_L_coefficient_10 : decode b_L_coefficient 10 = .ok (.astore 4, 2) := by decide +kernel
theorem d_L_coefficient_12 : decode b_L_coefficient 12 = .ok (.iconst 1, 1) := by decide +kernel
theorem d_L_coefficient_13 : decode b_L_coefficient 13 = .ok (.ireturn, 1) := by decide +kernel
theorem d_L_coefficient_14 : decode b_L_coefficient 14 = .ok (.astore 4, 2) := by decide +kernel
theorem d_L_coefficient_16 : decode b_L_coefficient 16 = .ok (.iconst 2, 1) := by decide +kernel
theorem d_L_coefficient_17 : decode b_L_coefficient 17 = .ok (.ireturn, 1) := by decide +kernel
theorem d_L_coefficient_18 : decode b_L_coefficient 18 = .ok (.iconst 0, 1) := by decide +kernel
theorem d_L_coefficient_19 : decode b_L_coefficient 19 = .ok (.ireturn, 1) := by decide +kernel
theorem d_L_advance_0 : decode b_L_advance 0 = .ok (.aload_n 1, 1) := by decide +kernel
theorem d_L_advance_1 : decode b_L_advance 1 = .ok (.iconst 0, 1) := by decide +kernel
theorem d_L_advance_2 : decode b_L_advance 2 = .ok (.aload_n 0, 1) := by decide +kernel
theorem d_L_advance_3 : decode b_L_advance 3 = .ok (.invokevirtual 21, 3) := by decide +kernel
theorem d_L_advance_6 : decode b_L_advance 6 = .ok (.i2l, 1) := by decide +kernel
theorem d_L_advance_7 : decode b_L_advance 7 = .ok (.lastore, 1) := by decide +kernel
theorem d_L_advance_8 : decode b_L_advance 8 = .ok (.goto 6, 3) := by decide +kernel
theorem d_L_advance_11 : decode b_L_advance 11 = .ok (.astore_n 2, 1) := by decide +kernel
theorem d_L_advance_12 : decode b_L_advance 12 = .ok (.iconst 1, 1) := by decide +kernel
theorem d_L_advance_13 : decode b_L_advance 13 = .ok (.ireturn, 1) := by decide +kernel
theorem d_L_advance_14 : decode b_L_advance 14 = .ok (.iconst 0, 1) := by decide +kernel
theorem d_L_advance_15 : decode b_L_advance 15 = .ok (.ireturn, 1) := by decide +kernel
theorem d_L_tamper_0 : decode b_L_tamper 0 = .ok (.aload_n 0, 1) := by decide +kernel
theorem d_L_tamper_1 : decode b_L_tamper 1 = .ok (.iload_n 1, 1) := by decide +kernel
theorem d_L_tamper_2 : decode b_L_tamper 2 = .ok (.iload_n 2, 1) := by decide +kernel
theorem d_L_tamper_3 : decode b_L_tamper 3 = .ok (.iload_n 3, 1) := by decide +kernel
theorem d_L_tamper_4 : decode b_L_tamper 4 = .ok (.invokevirtual 25, 3) := by decide +kernel
theorem d_L_tamper_7 : decode b_L_tamper 7 = .ok (.goto 11, 3) := by decide +kernel
theorem d_L_tamper_10 : decode b_L_tamper 10 = .ok (.astore 4, 2) := by decide +kernel
theorem d_L_tamper_12 : decode b_L_tamper 12 = .ok (.iconst 1, 1) := by decide +kernel
theorem d_L_tamper_13 : decode b_L_tamper 13 = .ok (.ireturn, 1) := by decide +kernel
theorem d_L_tamper_14 : decode b_L_tamper 14 = .ok (.astore 4, 2) := by decide +kernel
theorem d_L_tamper_16 : decode b_L_tamper 16 = .ok (.iconst 2, 1) := by decide +kernel
theorem d_L_tamper_17 : decode b_L_tamper 17 = .ok (.ireturn, 1) := by decide +kernel
theorem d_L_tamper_18 : decode b_L_tamper 18 = .ok (.iconst 0, 1) := by decide +kernel
theorem d_L_tamper_19 : decode b_L_tamper 19 = .ok (.ireturn, 1) := by decide +kernel
theorem d_L_forge_0 : decode b_L_forge 0 = .ok (.aload_n 0, 1) := by decide +kernel
theorem d_L_forge_1 : decode b_L_forge 1 = .ok (.iload_n 1, 1) := by decide +kernel
theorem d_L_forge_2 : decode b_L_forge 2 = .ok (.iload_n 2, 1) := by decide +kernel
theorem d_L_forge_3 : decode b_L_forge 3 = .ok (.invokevirtual 28, 3) := by decide +kernel
theorem d_L_forge_6 : decode b_L_forge 6 = .ok (.goto 9, 3) := by decide +kernel
theorem d_L_forge_9 : decode b_L_forge 9 = .ok (.astore_n 3, 1) := by decide +kernel
theorem d_L_forge_10 : decode b_L_forge 10 = .ok (.iconst 1, 1) := by decide +kernel
theorem d_L_forge_11 : decode b_L_forge 11 = .ok (.ireturn, 1) := by decide +kernel
theorem d_L_forge_12 : decode b_L_forge 12 = .ok (.astore_n 3, 1) := by decide +kernel
theorem d_L_forge_13 : decode b_L_forge 13 = .ok (.iconst 2, 1) := by decide +kernel
theorem d_L_forge_14 : decode b_L_forge 14 = .ok (.ireturn, 1) := by decide +kernel
theorem d_L_forge_15 : decode b_L_forge 15 = .ok (.iconst 0, 1) := by decide +kernel
theorem d_L_forge_16 : decode b_L_forge 16 = .ok (.ireturn, 1) := by decide +kernel
theorem d_L_corrupt_0 : decode b_L_corrupt 0 = .ok (.aload_n 2, 1) := by decide +kernel
theorem d_L_corrupt_1 : decode b_L_corrupt 1 = .ok (.iconst 0, 1) := by decide +kernel
theorem d_L_corrupt_2 : decode b_L_corrupt 2 = .ok (.aload_n 0, 1) := by decide +kernel
theorem d_L_corrupt_3 : decode b_L_corrupt 3 = .ok (.iload_n 1, 1) := by decide +kernel
theorem d_L_corrupt_4 : decode b_L_corrupt 4 = .ok (.invokevirtual 32, 3) := by decide +kernel
theorem d_L_corrupt_7 : decode b_L_corrupt 7 = .ok (.ifCond .eq 7, 3) := by decide +kernel
theorem d_L_corrupt_10 : decode b_L_corrupt 10 = .ok (.lconst 1, 1) := by decide +kernel
theorem d_L_corrupt_11 : decode b_L_corrupt 11 = .ok (.goto 4, 3) := by decide +kernel
theorem d_L_corrupt_14 : decode b_L_corrupt 14 = .ok (.lconst 0, 1) := by decide +kernel
theorem d_L_corrupt_15 : decode b_L_corrupt 15 = .ok (.lastore, 1) := by decide +kernel
theorem d_L_corrupt_16 : decode b_L_corrupt 16 = .ok (.goto 9, 3) := by decide +kernel
theorem d_L_corrupt_19 : decode b_L_corrupt 19 = .ok (.astore_n 3, 1) := by decide +kernel
theorem d_L_corrupt_20 : decode b_L_corrupt 20 = .ok (.iconst 1, 1) := by decide +kernel
theorem d_L_corrupt_21 : decode b_L_corrupt 21 = .ok (.ireturn, 1) := by decide +kernel
theorem d_L_corrupt_22 : decode b_L_corrupt 22 = .ok (.astore_n 3, 1) := by decide +kernel
theorem d_L_corrupt_23 : decode b_L_corrupt 23 = .ok (.iconst 2, 1) := by decide +kernel
theorem d_L_corrupt_24 : decode b_L_corrupt 24 = .ok (.ireturn, 1) := by decide +kernel
theorem d_L_corrupt_25 : decode b_L_corrupt 25 = .ok (.iconst 0, 1) := by decide +kernel
theorem d_L_corrupt_26 : decode b_L_corrupt 26 = .ok (.ireturn, 1) := by decide +kernel
theorem d_L_accuse_0 : decode b_L_accuse 0 = .ok (.aload_n 2, 1) := by decide +kernel
theorem d_L_accuse_1 : decode b_L_accuse 1 = .ok (.iconst 0, 1) := by decide +kernel
theorem d_L_accuse_2 : decode b_L_accuse 2 = .ok (.aload_n 0, 1) := by decide +kernel
theorem d_L_accuse_3 : decode b_L_accuse 3 = .ok (.iload_n 1, 1) := by decide +kernel
theorem d_L_accuse_4 : decode b_L_accuse 4 = .ok (.invokevirtual 36, 3) := by decide +kernel
theorem d_L_accuse_7 : decode b_L_accuse 7 = .ok (.ifCond .eq 7, 3) := by decide +kernel
theorem d_L_accuse_10 : decode b_L_accuse 10 = .ok (.lconst 1, 1) := by decide +kernel
theorem d_L_accuse_11 : decode b_L_accuse 11 = .ok (.goto 4, 3) := by decide +kernel
theorem d_L_accuse_14 : decode b_L_accuse 14 = .ok (.lconst 0, 1) := by decide +kernel
theorem d_L_accuse_15 : decode b_L_accuse 15 = .ok (.lastore, 1) := by decide +kernel
theorem d_L_accuse_16 : decode b_L_accuse 16 = .ok (.goto 9, 3) := by decide +kernel
theorem d_L_accuse_19 : decode b_L_accuse 19 = .ok (.astore_n 3, 1) := by decide +kernel
theorem d_L_accuse_20 : decode b_L_accuse 20 = .ok (.iconst 1, 1) := by decide +kernel
theorem d_L_accuse_21 : decode b_L_accuse 21 = .ok (.ireturn, 1) := by decide +kernel
theorem d_L_accuse_22 : decode b_L_accuse 22 = .ok (.astore_n 3, 1) := by decide +kernel
theorem d_L_accuse_23 : decode b_L_accuse 23 = .ok (.iconst 2, 1) := by decide +kernel
theorem d_L_accuse_24 : decode b_L_accuse 24 = .ok (.ireturn, 1) := by decide +kernel
theorem d_L_accuse_25 : decode b_L_accuse 25 = .ok (.iconst 0, 1) := by decide +kernel
theorem d_L_accuse_26 : decode b_L_accuse 26 = .ok (.ireturn, 1) := by decide +kernel
theorem d_L_answer_0 : decode b_L_answer 0 = .ok (.aload 4, 2) := by decide +kernel
theorem d_L_answer_2 : decode b_L_answer 2 = .ok (.iconst 0, 1) := by decide +kernel
theorem d_L_answer_3 : decode b_L_answer 3 = .ok (.aload_n 0, 1) := by decide +kernel
theorem d_L_answer_4 : decode b_L_answer 4 = .ok (.iload_n 1, 1) := by decide +kernel
theorem d_L_answer_5 : decode b_L_answer 5 = .ok (.iload_n 2, 1) := by decide +kernel
theorem d_L_answer_6 : decode b_L_answer 6 = .ok (.iload_n 3, 1) := by decide +kernel
theorem d_L_answer_7 : decode b_L_answer 7 = .ok (.invokevirtual 39, 3) := by decide +kernel
theorem d_L_answer_10 : decode b_L_answer 10 = .ok (.ifCond .eq 7, 3) := by decide +kernel
theorem d_L_answer_13 : decode b_L_answer 13 = .ok (.lconst 1, 1) := by decide +kernel
theorem d_L_answer_14 : decode b_L_answer 14 = .ok (.goto 4, 3) := by decide +kernel
theorem d_L_answer_17 : decode b_L_answer 17 = .ok (.lconst 0, 1) := by decide +kernel
theorem d_L_answer_18 : decode b_L_answer 18 = .ok (.lastore, 1) := by decide +kernel
theorem d_L_answer_19 : decode b_L_answer 19 = .ok (.goto 15, 3) := by decide +kernel
theorem d_L_answer_22 : decode b_L_answer 22 = .ok (.astore 5, 2) := by decide +kernel
theorem d_L_answer_24 : decode b_L_answer 24 = .ok (.iconst 1, 1) := by decide +kernel
theorem d_L_answer_25 : decode b_L_answer 25 = .ok (.ireturn, 1) := by decide +kernel
theorem d_L_answer_26 : decode b_L_answer 26 = .ok (.astore 5, 2) := by decide +kernel
theorem d_L_answer_28 : decode b_L_answer 28 = .ok (.iconst 2, 1) := by decide +kernel
theorem d_L_answer_29 : decode b_L_answer 29 = .ok (.ireturn, 1) := by decide +kernel
theorem d_L_answer_30 : decode b_L_answer 30 = .ok (.astore 5, 2) := by decide +kernel
theorem d_L_answer_32 : decode b_L_answer 32 = .ok (.iconst 3, 1) := by decide +kernel
theorem d_L_answer_33 : decode b_L_answer 33 = .ok (.ireturn, 1) := by decide +kernel
theorem d_L_answer_34 : decode b_L_answer 34 = .ok (.iconst 0, 1) := by decide +kernel
theorem d_L_answer_35 : decode b_L_answer 35 = .ok (.ireturn, 1) := by decide +kernel
theorem d_L_open_0 : decode b_L_open 0 = .ok (.aload_n 2, 1) := by decide +kernel
theorem d_L_open_1 : decode b_L_open 1 = .ok (.iconst 0, 1) := by decide +kernel
theorem d_L_open_2 : decode b_L_open 2 = .ok (.aload_n 0, 1) := by decide +kernel
theorem d_L_open_3 : decode b_L_open 3 = .ok (.iload_n 1, 1) := by decide +kernel
theorem d_L_open_4 : decode b_L_open 4 = .ok (.invokevirtual 45, 3) := by decide +kernel
theorem d_L_open_7 : decode b_L_open 7 = .ok (.ifCond .eq 7, 3) := by decide +kernel
theorem d_L_open_10 : decode b_L_open 10 = .ok (.lconst 1, 1) := by decide +kernel
theorem d_L_open_11 : decode b_L_open 11 = .ok (.goto 4, 3) := by decide +kernel
theorem d_L_open_14 : decode b_L_open 14 = .ok (.lconst 0, 1) := by decide +kernel
theorem d_L_open_15 : decode b_L_open 15 = .ok (.lastore, 1) := by decide +kernel
theorem d_L_open_16 : decode b_L_open 16 = .ok (.goto 9, 3) := by decide +kernel
theorem d_L_open_19 : decode b_L_open 19 = .ok (.astore_n 3, 1) := by decide +kernel
theorem d_L_open_20 : decode b_L_open 20 = .ok (.iconst 1, 1) := by decide +kernel
theorem d_L_open_21 : decode b_L_open 21 = .ok (.ireturn, 1) := by decide +kernel
theorem d_L_open_22 : decode b_L_open 22 = .ok (.astore_n 3, 1) := by decide +kernel
theorem d_L_open_23 : decode b_L_open 23 = .ok (.iconst 2, 1) := by decide +kernel
theorem d_L_open_24 : decode b_L_open 24 = .ok (.ireturn, 1) := by decide +kernel
theorem d_L_open_25 : decode b_L_open 25 = .ok (.iconst 0, 1) := by decide +kernel
theorem d_L_open_26 : decode b_L_open 26 = .ok (.ireturn, 1) := by decide +kernel
theorem d_L_show_0 : decode b_L_show 0 = .ok (.aload 4, 2) := by decide +kernel
theorem d_L_show_2 : decode b_L_show 2 = .ok (.iconst 0, 1) := by decide +kernel
theorem d_L_show_3 : decode b_L_show 3 = .ok (.aload_n 0, 1) := by decide +kernel
theorem d_L_show_4 : decode b_L_show 4 = .ok (.iload_n 1, 1) := by decide +kernel
theorem d_L_show_5 : decode b_L_show 5 = .ok (.iload_n 2, 1) := by decide +kernel
theorem d_L_show_6 : decode b_L_show 6 = .ok (.iload_n 3, 1) := by decide +kernel
theorem d_L_show_7 : decode b_L_show 7 = .ok (.invokevirtual 48, 3) := by decide +kernel
theorem d_L_show_10 : decode b_L_show 10 = .ok (.ifCond .eq 7, 3) := by decide +kernel
theorem d_L_show_13 : decode b_L_show 13 = .ok (.lconst 1, 1) := by decide +kernel
theorem d_L_show_14 : decode b_L_show 14 = .ok (.goto 4, 3) := by decide +kernel
theorem d_L_show_17 : decode b_L_show 17 = .ok (.lconst 0, 1) := by decide +kernel
theorem d_L_show_18 : decode b_L_show 18 = .ok (.lastore, 1) := by decide +kernel
theorem d_L_show_19 : decode b_L_show 19 = .ok (.goto 11, 3) := by decide +kernel
theorem d_L_show_22 : decode b_L_show 22 = .ok (.astore 5, 2) := by decide +kernel
theorem d_L_show_24 : decode b_L_show 24 = .ok (.iconst 1, 1) := by decide +kernel
theorem d_L_show_25 : decode b_L_show 25 = .ok (.ireturn, 1) := by decide +kernel
theorem d_L_show_26 : decode b_L_show 26 = .ok (.astore 5, 2) := by decide +kernel
theorem d_L_show_28 : decode b_L_show 28 = .ok (.iconst 2, 1) := by decide +kernel
theorem d_L_show_29 : decode b_L_show 29 = .ok (.ireturn, 1) := by decide +kernel
theorem d_L_show_30 : decode b_L_show 30 = .ok (.iconst 0, 1) := by decide +kernel
theorem d_L_show_31 : decode b_L_show 31 = .ok (.ireturn, 1) := by decide +kernel
theorem d_L_secret_0 : decode b_L_secret 0 = .ok (.aload_n 1, 1) := by decide +kernel
theorem d_L_secret_1 : decode b_L_secret 1 = .ok (.iconst 0, 1) := by decide +kernel
theorem d_L_secret_2 : decode b_L_secret 2 = .ok (.aload_n 0, 1) := by decide +kernel
theorem d_L_secret_3 : decode b_L_secret 3 = .ok (.invokevirtual 51, 3) := by decide +kernel
theorem d_L_secret_6 : decode b_L_secret 6 = .ok (.i2l, 1) := by decide +kernel
theorem d_L_secret_7 : decode b_L_secret 7 = .ok (.lastore, 1) := by decide +kernel
theorem d_L_secret_8 : decode b_L_secret 8 = .ok (.goto 9, 3) := by decide +kernel
theorem d_L_secret_11 : decode b_L_secret 11 = .ok (.astore_n 2, 1) := by decide +kernel
theorem d_L_secret_12 : decode b_L_secret 12 = .ok (.iconst 1, 1) := by decide +kernel
theorem d_L_secret_13 : decode b_L_secret 13 = .ok (.ireturn, 1) := by decide +kernel
theorem d_L_secret_14 : decode b_L_secret 14 = .ok (.astore_n 2, 1) := by decide +kernel
theorem d_L_secret_15 : decode b_L_secret 15 = .ok (.iconst 2, 1) := by decide +kernel
theorem d_L_secret_16 : decode b_L_secret 16 = .ok (.ireturn, 1) := by decide +kernel
theorem d_L_secret_17 : decode b_L_secret 17 = .ok (.iconst 0, 1) := by decide +kernel
theorem d_L_secret_18 : decode b_L_secret 18 = .ok (.ireturn, 1) := by decide +kernel
theorem d_L_relation_0 : decode b_L_relation 0 = .ok (.aload_n 1, 1) := by decide +kernel
theorem d_L_relation_1 : decode b_L_relation 1 = .ok (.iconst 0, 1) := by decide +kernel
theorem d_L_relation_2 : decode b_L_relation 2 = .ok (.aload_n 0, 1) := by decide +kernel
theorem d_L_relation_3 : decode b_L_relation 3 = .ok (.invokevirtual 54, 3) := by decide +kernel
theorem d_L_relation_6 : decode b_L_relation 6 = .ok (.i2l, 1) := by decide +kernel
theorem d_L_relation_7 : decode b_L_relation 7 = .ok (.lastore, 1) := by decide +kernel
theorem d_L_relation_8 : decode b_L_relation 8 = .ok (.goto 9, 3) := by decide +kernel
theorem d_L_relation_11 : decode b_L_relation 11 = .ok (.astore_n 2, 1) := by decide +kernel
theorem d_L_relation_12 : decode b_L_relation 12 = .ok (.iconst 1, 1) := by decide +kernel
theorem d_L_relation_13 : decode b_L_relation 13 = .ok (.ireturn, 1) := by decide +kernel
theorem d_L_relation_14 : decode b_L_relation 14 = .ok (.astore_n 2, 1) := by decide +kernel
theorem d_L_relation_15 : decode b_L_relation 15 = .ok (.iconst 2, 1) := by decide +kernel
theorem d_L_relation_16 : decode b_L_relation 16 = .ok (.ireturn, 1) := by decide +kernel
theorem d_L_relation_17 : decode b_L_relation 17 = .ok (.iconst 0, 1) := by decide +kernel
theorem d_L_relation_18 : decode b_L_relation 18 = .ok (.ireturn, 1) := by decide +kernel
