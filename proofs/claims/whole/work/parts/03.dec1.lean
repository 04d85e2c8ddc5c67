theorem d_G_init_0 : decode b_G_init 0 = .ok (.aload_n 0, 1) := by decide +kernel
theorem d_G_init_1 : decode b_G_init 1 = .ok (.invokespecial 1, 3) := by decide +kernel
theorem d_G_init_4 : decode b_G_init 4 = .ok (.aload_n 0, 1) := by decide +kernel
theorem d_G_init_5 : decode b_G_init 5 = .ok (.iload_n 1, 1) := by decide +kernel
theorem d_G_init_6 : decode b_G_init 6 = .ok (.putfield 7, 3) := by decide +kernel
theorem d_G_init_9 : decode b_G_init 9 = .ok (.aload_n 0, 1) := by decide +kernel
theorem d_G_init_10 : decode b_G_init 10 = .ok (.iload_n 2, 1) := by decide +kernel
theorem d_G_init_11 : decode b_G_init 11 = .ok (.putfield 13, 3) := by decide +kernel
theorem d_G_init_14 : decode b_G_init 14 = .ok (.aload_n 0, 1) := by decide +kernel
theorem d_G_init_15 : decode b_G_init 15 = .ok (.iload_n 3, 1) := by decide +kernel
theorem d_G_init_16 : decode b_G_init 16 = .ok (.putfield 16, 3) := by decide +kernel
theorem d_G_init_19 : decode b_G_init 19 = .ok (.aload_n 0, 1) := by decide +kernel
theorem d_G_init_20 : decode b_G_init 20 = .ok (.iload 4, 2) := by decide +kernel
theorem d_G_init_22 : decode b_G_init 22 = .ok (.putfield 19, 3) := by decide +kernel
theorem d_G_init_25 : decode b_G_init 25 = .ok (.return_, 1) := by decide +kernel
theorem d_G_told_0 : decode b_G_told 0 = .ok (.iload_n 0, 1) := by decide +kernel
theorem d_G_told_1 : decode b_G_told 1 = .ok (.iload_n 1, 1) := by decide +kernel
theorem d_G_told_2 : decode b_G_told 2 = .ok (.iload_n 2, 1) := by decide +kernel
theorem d_G_told_3 : decode b_G_told 3 = .ok (.iload_n 3, 1) := by decide +kernel
theorem d_G_told_4 : decode b_G_told 4 = .ok (.invokestatic 22, 3) := by decide +kernel
theorem d_G_told_7 : decode b_G_told 7 = .ok (.ifCond .eq 17, 3) := by decide +kernel
theorem d_G_told_10 : decode b_G_told 10 = .ok (.new 8, 3) := by decide +kernel
theorem d_G_told_13 : decode b_G_told 13 = .ok (.dup, 1) := by decide +kernel
theorem d_G_told_14 : decode b_G_told 14 = .ok (.iload_n 0, 1) := by decide +kernel
theorem d_G_told_15 : decode b_G_told 15 = .ok (.iload_n 1, 1) := by decide +kernel
theorem d_G_told_16 : decode b_G_told 16 = .ok (.iload_n 2, 1) := by decide +kernel
theorem d_G_told_17 : decode b_G_told 17 = .ok (.iload_n 3, 1) := by decide +kernel
theorem d_G_told_18 : decode b_G_told 18 = .ok (.invokespecial 26, 3) := by decide +kernel
theorem d_G_told_21 : decode b_G_told 21 = .ok (.goto 19, 3) := by decide +kernel
theorem d_G_told_24 : decode b_G_told 24 = .ok (.new 8, 3) := by decide +kernel
theorem d_G_told_27 : decode b_G_told 27 = .ok (.dup, 1) := by decide +kernel
theorem d_G_told_28 : decode b_G_told 28 = .ok (.sipush 2039, 3) := by decide +kernel
theorem d_G_told_31 : decode b_G_told 31 = .ok (.sipush 1019, 3) := by decide +kernel
theorem d_G_told_34 : decode b_G_told 34 = .ok (.iconst 4, 1) := by decide +kernel
theorem d_G_told_35 : decode b_G_told 35 = .ok (.bipush 9, 2) := by decide +kernel
theorem d_G_told_37 : decode b_G_told 37 = .ok (.invokespecial 26, 3) := by decide +kernel
theorem d_G_told_40 : decode b_G_told 40 = .ok (.areturn, 1) := by decide +kernel
theorem d_G_isSound_0 : decode b_G_isSound 0 = .ok (.iload_n 0, 1) := by decide +kernel
theorem d_G_isSound_1 : decode b_G_isSound 1 = .ok (.iconst 2, 1) := by decide +kernel
theorem d_G_isSound_2 : decode b_G_isSound 2 = .ok (.if_icmp .lt 57, 3) := by decide +kernel
theorem d_G_isSound_5 : decode b_G_isSound 5 = .ok (.iload_n 1, 1) := by decide +kernel
theorem d_G_isSound_6 : decode b_G_isSound 6 = .ok (.iconst 2, 1) := by decide +kernel
theorem d_G_isSound_7 : decode b_G_isSound 7 = .ok (.if_icmp .lt 52, 3) := by decide +kernel
theorem d_G_isSound_10 : decode b_G_isSound 10 = .ok (.iload_n 0, 1) := by decide +kernel
theorem d_G_isSound_11 : decode b_G_isSound 11 = .ok (.iconst 1, 1) := by decide +kernel
theorem d_G_isSound_12 : decode b_G_isSound 12 = .ok (.isub, 1) := by decide +kernel
theorem d_G_isSound_13 : decode b_G_isSound 13 = .ok (.iload_n 1, 1) := by decide +kernel
theorem d_G_isSound_14 : decode b_G_isSound 14 = .ok (.irem, 1) := by decide +kernel
theorem d_G_isSound_15 : decode b_G_isSound 15 = .ok (.ifCond .ne 44, 3) := by decide +kernel
theorem d_G_isSound_18 : decode b_G_isSound 18 = .ok (.iload_n 2, 1) := by decide +kernel
theorem d_G_isSound_19 : decode b_G_isSound 19 = .ok (.iload_n 3, 1) := by decide +kernel
theorem d_G_isSound_20 : decode b_G_isSound 20 = .ok (.if_icmp .eq 39, 3) := by decide +kernel
theorem d_G_isSound_23 : decode b_G_isSound 23 = .ok (.iload_n 2, 1) := by decide +kernel
theorem d_G_isSound_24 : decode b_G_isSound 24 = .ok (.iload_n 0, 1) := by decide +kernel
theorem d_G_isSound_25 : decode b_G_isSound 25 = .ok (.iload_n 1, 1) := by decide +kernel
theorem d_G_isSound_26 : decode b_G_isSound 26 = .ok (.invokestatic 29, 3) := by decide +kernel
theorem d_G_isSound_29 : decode b_G_isSound 29 = .ok (.ifCond .eq 30, 3) := by decide +kernel
theorem d_G_isSound_32 : decode b_G_isSound 32 = .ok (.iload_n 3, 1) := by decide +kernel
theorem d_G_isSound_33 : decode b_G_isSound 33 = .ok (.iload_n 0, 1) := by decide +kernel
theorem d_G_isSound_34 : decode b_G_isSound 34 = .ok (.iload_n 1, 1) := by decide +kernel
theorem d_G_isSound_35 : decode b_G_isSound 35 = .ok (.invokestatic 29, 3) := by decide +kernel
theorem d_G_isSound_38 : decode b_G_isSound 38 = .ok (.ifCond .eq 21, 3) := by decide +kernel
theorem d_G_isSound_41 : decode b_G_isSound 41 = .ok (.iload_n 1, 1) := by decide +kernel
theorem d_G_isSound_42 : decode b_G_isSound 42 = .ok (.invokestatic 33, 3) := by decide +kernel
theorem d_G_isSound_45 : decode b_G_isSound 45 = .ok (.ifCond .eq 14, 3) := by decide +kernel
theorem d_G_isSound_48 : decode b_G_isSound 48 = .ok (.iload_n 0, 1) := by decide +kernel
theorem d_G_isSound_49 : decode b_G_isSound 49 = .ok (.invokestatic 33, 3) := by decide +kernel
theorem d_G_isSound_52 : decode b_G_isSound 52 = .ok (.ifCond .eq 7, 3) := by decide +kernel
theorem d_G_isSound_55 : decode b_G_isSound 55 = .ok (.iconst 1, 1) := by decide +kernel
theorem d_G_isSound_56 : decode b_G_isSound 56 = .ok (.goto 4, 3) := by decide +kernel
theorem d_G_isSound_59 : decode b_G_isSound 59 = .ok (.iconst 0, 1) := by decide +kernel
theorem d_G_isSound_60 : decode b_G_isSound 60 = .ok (.ireturn, 1) := by decide +kernel
theorem d_G_isElement_0 : decode b_G_isElement 0 = .ok (.iload_n 0, 1) := by decide +kernel
theorem d_G_isElement_1 : decode b_G_isElement 1 = .ok (.iconst 2, 1) := by decide +kernel
theorem d_G_isElement_2 : decode b_G_isElement 2 = .ok (.if_icmp .lt 22, 3) := by decide +kernel
theorem d_G_isElement_5 : decode b_G_isElement 5 = .ok (.iload_n 0, 1) := by decide +kernel
theorem d_G_isElement_6 : decode b_G_isElement 6 = .ok (.iload_n 1, 1) := by decide +kernel
theorem d_G_isElement_7 : decode b_G_isElement 7 = .ok (.if_icmp .ge 17, 3) := by decide +kernel
theorem d_G_isElement_10 : decode b_G_isElement 10 = .ok (.iload_n 0, 1) := by decide +kernel
theorem d_G_isElement_11 : decode b_G_isElement 11 = .ok (.iload_n 2, 1) := by decide +kernel
theorem d_G_isElement_12 : decode b_G_isElement 12 = .ok (.iload_n 1, 1) := by decide +kernel
theorem d_G_isElement_13 : decode b_G_isElement 13 = .ok (.invokestatic 37, 3) := by decide +kernel
theorem d_G_isElement_16 : decode b_G_isElement 16 = .ok (.iconst 1, 1) := by decide +kernel
theorem d_G_isElement_17 : decode b_G_isElement 17 = .ok (.if_icmp .ne 7, 3) := by decide +kernel
theorem d_G_isElement_20 : decode b_G_isElement 20 = .ok (.iconst 1, 1) := by decide +kernel
theorem d_G_isElement_21 : decode b_G_isElement 21 = .ok (.goto 4, 3) := by decide +kernel
theorem d_G_isElement_24 : decode b_G_isElement 24 = .ok (.iconst 0, 1) := by decide +kernel
theorem d_G_isElement_25 : decode b_G_isElement 25 = .ok (.ireturn, 1) := by decide +kernel
theorem d_G_isPrime_0 : decode b_G_isPrime 0 = .ok (.iload_n 0, 1) := by decide +kernel
theorem d_G_isPrime_1 : decode b_G_isPrime 1 = .ok (.iconst 2, 1) := by decide +kernel
theorem d_G_isPrime_2 : decode b_G_isPrime 2 = .ok (.if_icmp .lt 9, 3) := by decide +kernel
theorem d_G_isPrime_5 : decode b_G_isPrime 5 = .ok (.iload_n 0, 1) := by decide +kernel
theorem d_G_isPrime_6 : decode b_G_isPrime 6 = .ok (.iconst 2, 1) := by decide +kernel
theorem d_G_isPrime_7 : decode b_G_isPrime 7 = .ok (.irem, 1) := by decide +kernel
theorem d_G_isPrime_8 : decode b_G_isPrime 8 = .ok (.ifCond .ne 14, 3) := by decide +kernel
theorem d_G_isPrime_11 : decode b_G_isPrime 11 = .ok (.iload_n 0, 1) := by decide +kernel
theorem d_G_isPrime_12 : decode b_G_isPrime 12 = .ok (.iconst 2, 1) := by decide +kernel
theorem d_G_isPrime_13 : decode b_G_isPrime 13 = .ok (.if_icmp .ne 7, 3) := by decide +kernel
theorem d_G_isPrime_16 : decode b_G_isPrime 16 = .ok (.iconst 1, 1) := by decide +kernel
theorem d_G_isPrime_17 : decode b_G_isPrime 17 = .ok (.goto 4, 3) := by decide +kernel
theorem d_G_isPrime_20 : decode b_G_isPrime 20 = .ok (.iconst 0, 1) := by decide +kernel
theorem d_G_isPrime_21 : decode b_G_isPrime 21 = .ok (.ireturn, 1) := by decide +kernel
theorem d_G_isPrime_22 : decode b_G_isPrime 22 = .ok (.iconst 3, 1) := by decide +kernel
theorem d_G_isPrime_23 : decode b_G_isPrime 23 = .ok (.istore_n 1, 1) := by decide +kernel
theorem d_G_isPrime_24 : decode b_G_isPrime 24 = .ok (.iload_n 1, 1) := by decide +kernel
theorem d_G_isPrime_25 : decode b_G_isPrime 25 = .ok (.iload_n 0, 1) := by decide +kernel
theorem d_G_isPrime_26 : decode b_G_isPrime 26 = .ok (.iload_n 1, 1) := by decide +kernel
theorem d_G_isPrime_27 : decode b_G_isPrime 27 = .ok (.idiv, 1) := by decide +kernel
theorem d_G_isPrime_28 : decode b_G_isPrime 28 = .ok (.if_icmp .gt 17, 3) := by decide +kernel
theorem d_G_isPrime_31 : decode b_G_isPrime 31 = .ok (.iload_n 0, 1) := by decide +kernel
theorem d_G_isPrime_32 : decode b_G_isPrime 32 = .ok (.iload_n 1, 1) := by decide +kernel
theorem d_G_isPrime_33 : decode b_G_isPrime 33 = .ok (.irem, 1) := by decide +kernel
theorem d_G_isPrime_34 : decode b_G_isPrime 34 = .ok (.ifCond .ne 5, 3) := by decide +kernel
theorem d_G_isPrime_37 : decode b_G_isPrime 37 = .ok (.iconst 0, 1) := by decide +kernel
theorem d_G_isPrime_38 : decode b_G_isPrime 38 = .ok (.ireturn, 1) := by decide +kernel
theorem d_G_isPrime_39 : decode b_G_isPrime 39 = .ok (.iinc 1 2, 3) := by decide +kernel
theorem d_G_isPrime_42 : decode b_G_isPrime 42 = .ok (.goto (-18), 3) := by decide +kernel
theorem d_G_isPrime_45 : decode b_G_isPrime 45 = .ok (.iconst 1, 1) := by decide +kernel
theorem d_G_isPrime_46 : decode b_G_isPrime 46 = .ok (.ireturn, 1) := by decide +kernel
theorem d_G_powerModulo_0 : decode b_G_powerModulo 0 = .ok (.lconst 1, 1) := by decide +kernel
theorem d_G_powerModulo_1 : decode b_G_powerModulo 1 = .ok (.lstore_n 3, 1) := by decide +kernel
theorem d_G_powerModulo_2 : decode b_G_powerModulo 2 = .ok (.iload_n 0, 1) := by decide +kernel
theorem d_G_powerModulo_3 : decode b_G_powerModulo 3 = .ok (.i2l, 1) := by decide +kernel
theorem d_G_powerModulo_4 : decode b_G_powerModulo 4 = .ok (.lstore 5, 2) := by decide +kernel
theorem d_G_powerModulo_6 : decode b_G_powerModulo 6 = .ok (.iload_n 1, 1) := by decide +kernel
theorem d_G_powerModulo_7 : decode b_G_powerModulo 7 = .ok (.istore 7, 2) := by decide +kernel
theorem d_G_powerModulo_9 : decode b_G_powerModulo 9 = .ok (.iload 7, 2) := by decide +kernel
theorem d_G_powerModulo_11 : decode b_G_powerModulo 11 = .ok (.ifCond .le 38, 3) := by decide +kernel
theorem d_G_powerModulo_14 : decode b_G_powerModulo 14 = .ok (.iload 7, 2) := by decide +kernel
theorem d_G_powerModulo_16 : decode b_G_powerModulo 16 = .ok (.iconst 1, 1) := by decide +kernel
theorem d_G_powerModulo_17 : decode b_G_powerModulo 17 = .ok (.iand, 1) := by decide +kernel
theorem d_G_powerModulo_18 : decode b_G_powerModulo 18 = .ok (.iconst 1, 1) := by decide +kernel
theorem d_G_powerModulo_19 : decode b_G_powerModulo 19 = .ok (.if_icmp .ne 11, 3) := by decide +kernel
theorem d_G_powerModulo_22 : decode b_G_powerModulo 22 = .ok (.lload_n 3, 1) := by decide +kernel
theorem d_G_powerModulo_23 : decode b_G_powerModulo 23 = .ok (.lload 5, 2) := by decide +kernel
theorem d_G_powerModulo_25 : decode b_G_powerModulo 25 = .ok (.lmul, 1) := by decide +kernel
theorem d_G_powerModulo_26 : decode b_G_powerModulo 26 = .ok (.iload_n 2, 1) := by decide +kernel
theorem d_G_powerModulo_27 : decode b_G_powerModulo 27 = .ok (.i2l, 1) := by decide +kernel
theorem d_G_powerModulo_28 : decode b_G_powerModulo 28 = .ok (.lrem, 1) := by decide +kernel
theorem d_G_powerModulo_29 : decode b_G_powerModulo 29 = .ok (.lstore_n 3, 1) := by decide +kernel
theorem d_G_powerModulo_30 : decode b_G_powerModulo 30 = .ok (.lload 5, 2) := by decide +kernel
theorem d_G_powerModulo_32 : decode b_G_powerModulo 32 = .ok (.lload 5, 2) := by decide +kernel
theorem d_G_powerModulo_34 : decode b_G_powerModulo 34 = .ok (.lmul, 1) := by decide +kernel
theorem d_G_powerModulo_35 : decode b_G_powerModulo 35 = .ok (.iload_n 2, 1) := by decide +kernel
theorem d_G_powerModulo_36 : decode b_G_powerModulo 36 = .ok (.i2l, 1) := by decide +kernel
theorem d_G_powerModulo_37 : decode b_G_powerModulo 37 = .ok (.lrem, 1) := by decide +kernel
theorem d_G_powerModulo_38 : decode b_G_powerModulo 38 = .ok (.lstore 5, 2) := by decide +kernel
theorem d_G_powerModulo_40 : decode b_G_powerModulo 40 = .ok (.iload 7, 2) := by decide +kernel
theorem d_G_powerModulo_42 : decode b_G_powerModulo 42 = .ok (.iconst 1, 1) := by decide +kernel
theorem d_G_powerModulo_43 : decode b_G_powerModulo 43 = .ok (.ishr, 1) := by decide +kernel
theorem d_G_powerModulo_44 : decode b_G_powerModulo 44 = .ok (.istore 7, 2) := by decide +kernel
theorem d_G_powerModulo_46 : decode b_G_powerModulo 46 = .ok (.goto (-37), 3) := by decide +kernel
theorem d_G_powerModulo_49 : decode b_G_powerModulo 49 = .ok (.lload_n 3, 1) := by decide +kernel
theorem d_G_powerModulo_50 : decode b_G_powerModulo 50 = .ok (.l2i, 1) := by decide +kernel
theorem d_G_powerModulo_51 : decode b_G_powerModulo 51 = .ok (.ireturn, 1) := by decide +kernel
theorem d_G_commit_0 : decode b_G_commit 0 = .ok (.aload_n 0, 1) := by decide +kernel
theorem d_G_commit_1 : decode b_G_commit 1 = .ok (.aload_n 0, 1) := by decide +kernel
theorem d_G_commit_2 : decode b_G_commit 2 = .ok (.aload_n 0, 1) := by decide +kernel
theorem d_G_commit_3 : decode b_G_commit 3 = .ok (.getfield 16, 3) := by decide +kernel
theorem d_G_commit_6 : decode b_G_commit 6 = .ok (.iload_n 1, 1) := by decide +kernel
theorem d_G_commit_7 : decode b_G_commit 7 = .ok (.invokevirtual 41, 3) := by decide +kernel
theorem d_G_commit_10 : decode b_G_commit 10 = .ok (.aload_n 0, 1) := by decide +kernel
theorem d_G_commit_11 : decode b_G_commit 11 = .ok (.aload_n 0, 1) := by decide +kernel
theorem d_G_commit_12 : decode b_G_commit 12 = .ok (.getfield 19, 3) := by decide +kernel
theorem d_G_commit_15 : decode b_G_commit 15 = .ok (.iload_n 2, 1) := by decide +kernel
theorem d_G_commit_16 : decode b_G_commit 16 = .ok (.invokevirtual 41, 3) := by decide +kernel
theorem d_G_commit_19 : decode b_G_commit 19 = .ok (.invokevirtual 45, 3) := by decide +kernel
theorem d_G_commit_22 : decode b_G_commit 22 = .ok (.ireturn, 1) := by decide +kernel
theorem d_G_power_0 : decode b_G_power 0 = .ok (.iload_n 1, 1) := by decide +kernel
theorem d_G_power_1 : decode b_G_power 1 = .ok (.iload_n 2, 1) := by decide +kernel
theorem d_G_power_2 : decode b_G_power 2 = .ok (.aload_n 0, 1) := by decide +kernel
theorem d_G_power_3 : decode b_G_power 3 = .ok (.getfield 7, 3) := by decide +kernel
theorem d_G_power_6 : decode b_G_power 6 = .ok (.invokestatic 37, 3) := by decide +kernel
theorem d_G_power_9 : decode b_G_power 9 = .ok (.ireturn, 1) := by decide +kernel
theorem d_G_product_0 : decode b_G_product 0 = .ok (.iload_n 1, 1) := by decide +kernel
theorem d_G_product_1 : decode b_G_product 1 = .ok (.i2l, 1) := by decide +kernel
theorem d_G_product_2 : decode b_G_product 2 = .ok (.iload_n 2, 1) := by decide +kernel
theorem d_G_product_3 : decode b_G_product 3 = .ok (.i2l, 1) := by decide +kernel
theorem d_G_product_4 : decode b_G_product 4 = .ok (.lmul, 1) := by decide +kernel
theorem d_G_product_5 : decode b_G_product 5 = .ok (.aload_n 0, 1) := by decide +kernel
theorem d_G_product_6 : decode b_G_product 6 = .ok (.getfield 7, 3) := by decide +kernel
theorem d_G_product_9 : decode b_G_product 9 = .ok (.i2l, 1) := by decide +kernel
theorem d_G_product_10 : decode b_G_product 10 = .ok (.lrem, 1) := by decide +kernel
theorem d_G_product_11 : decode b_G_product 11 = .ok (.l2i, 1) := by decide +kernel
theorem d_G_product_12 : decode b_G_product 12 = .ok (.ireturn, 1) := by decide +kernel
theorem d_G_number_0 : decode b_G_number 0 = .ok (.iload_n 1, 1) := by decide +kernel
theorem d_G_number_1 : decode b_G_number 1 = .ok (.aload_n 0, 1) := by decide +kernel
theorem d_G_number_2 : decode b_G_number 2 = .ok (.getfield 13, 3) := by decide +kernel
theorem d_G_number_5 : decode b_G_number 5 = .ok (.invokestatic 48, 3) := by decide +kernel
theorem d_G_number_8 : decode b_G_number 8 = .ok (.ireturn, 1) := by decide +kernel
theorem d_G_plus_0 : decode b_G_plus 0 = .ok (.iload_n 1, 1) := by decide +kernel
theorem d_G_plus_1 : decode b_G_plus 1 = .ok (.i2l, 1) := by decide +kernel
theorem d_G_plus_2 : decode b_G_plus 2 = .ok (.iload_n 2, 1) := by decide +kernel
theorem d_G_plus_3 : decode b_G_plus 3 = .ok (.i2l, 1) := by decide +kernel
theorem d_G_plus_4 : decode b_G_plus 4 = .ok (.ladd, 1) := by decide +kernel
theorem d_G_plus_5 : decode b_G_plus 5 = .ok (.aload_n 0, 1) := by decide +kernel
theorem d_G_plus_6 : decode b_G_plus 6 = .ok (.getfield 13, 3) := by decide +kernel
theorem d_G_plus_9 : decode b_G_plus 9 = .ok (.i2l, 1) := by decide +kernel
theorem d_G_plus_10 : decode b_G_plus 10 = .ok (.lrem, 1) := by decide +kernel
theorem d_G_plus_11 : decode b_G_plus 11 = .ok (.l2i, 1) := by decide +kernel
theorem d_G_plus_12 : decode b_G_plus 12 = .ok (.ireturn, 1) := by decide +kernel
theorem d_G_minus_0 : decode b_G_minus 0 = .ok (.aload_n 0, 1) := by decide +kernel
theorem d_G_minus_1 : decode b_G_minus 1 = .ok (.iload_n 1, 1) := by decide +kernel
theorem d_G_minus_2 : decode b_G_minus 2 = .ok (.iload_n 2, 1) := by decide +kernel
theorem d_G_minus_3 : decode b_G_minus 3 = .ok (.isub, 1) := by decide +kernel
theorem d_G_minus_4 : decode b_G_minus 4 = .ok (.invokevirtual 53, 3) := by decide +kernel
theorem d_G_minus_7 : decode b_G_minus 7 = .ok (.ireturn, 1) := by decide +kernel
theorem d_G_times_0 : decode b_G_times 0 = .ok (.iload_n 1, 1) := by decide +kernel
theorem d_G_times_1 : decode b_G_times 1 = .ok (.i2l, 1) := by decide +kernel
theorem d_G_times_2 : decode b_G_times 2 = .ok (.iload_n 2, 1) := by decide +kernel
theorem d_G_times_3 : decode b_G_times 3 = .ok (.i2l, 1) := by decide +kernel
theorem d_G_times_4 : decode b_G_times 4 = .ok (.lmul, 1) := by decide +kernel
theorem d_G_times_5 : decode b_G_times 5 = .ok (.aload_n 0, 1) := by decide +kernel
theorem d_G_times_6 : decode b_G_times 6 = .ok (.getfield 13, 3) := by decide +kernel
theorem d_G_times_9 : decode b_G_times 9 = .ok (.i2l, 1) := by decide +kernel
theorem d_G_times_10 : decode b_G_times 10 = .ok (.lrem, 1) := by decide +kernel
theorem d_G_times_11 : decode b_G_times 11 = .ok (.l2i, 1) := by decide +kernel
theorem d_G_times_12 : decode b_G_times 12 = .ok (.ireturn, 1) := by decide +kernel
theorem d_G_quotient_0 : decode b_G_quotient 0 = .ok (.aload_n 0, 1) := by decide +kernel
theorem d_G_quotient_1 : decode b_G_quotient 1 = .ok (.iload_n 1, 1) := by decide +kernel
theorem d_G_quotient_2 : decode b_G_quotient 2 = .ok (.iload_n 2, 1) := by decide +kernel
theorem d_G_quotient_3 : decode b_G_quotient 3 = .ok (.aload_n 0, 1) := by decide +kernel
theorem d_G_quotient_4 : decode b_G_quotient 4 = .ok (.getfield 13, 3) := by decide +kernel
theorem d_G_quotient_7 : decode b_G_quotient 7 = .ok (.iconst 2, 1) := by decide +kernel
theorem d_G_quotient_8 : decode b_G_quotient 8 = .ok (.isub, 1) := by decide +kernel
theorem d_G_quotient_9 : decode b_G_quotient 9 = .ok (.aload_n 0, 1) := by decide +kernel
theorem d_G_quotient_10 : decode b_G_quotient 10 = .ok (.getfield 13, 3) := by decide +kernel
theorem d_G_quotient_13 : decode b_G_quotient 13 = .ok (.invokestatic 37, 3) := by decide +kernel
theorem d_G_quotient_16 : decode b_G_quotient 16 = .ok (.invokevirtual 57, 3) := by decide +kernel
theorem d_G_quotient_19 : decode b_G_quotient 19 = .ok (.ireturn, 1) := by decide +kernel
theorem d_P_init_0 : decode b_P_init 0 = .ok (.aload_n 0, 1) := by decide +kernel
theorem d_P_init_1 : decode b_P_init 1 = .ok (.invokespecial 1, 3) := by decide +kernel
theorem d_P_init_4 : decode b_P_init 4 = .ok (.aload_n 0, 1) := by decide +kernel
theorem d_P_init_5 : decode b_P_init 5 = .ok (.iload_n 1, 1) := by decide +kernel
theorem d_P_init_6 : decode b_P_init 6 = .ok (.putfield 7, 3) := by decide +kernel
theorem d_P_init_9 : decode b_P_init 9 = .ok (.return_, 1) := by decide +kernel
theorem d_P_startAnew_0 : decode b_P_startAnew 0 = .ok (.aload_n 0, 1) := by decide +kernel
theorem d_P_startAnew_1 : decode b_P_startAnew 1 = .ok (.iconst 0, 1) := by decide +kernel
theorem d_P_startAnew_2 : decode b_P_startAnew 2 = .ok (.putfield 13, 3) := by decide +kernel
theorem d_P_startAnew_5 : decode b_P_startAnew 5 = .ok (.aload_n 0, 1) := by decide +kernel
theorem d_P_startAnew_6 : decode b_P_startAnew 6 = .ok (.iconst 0, 1) := by decide +kernel
theorem d_P_startAnew_7 : decode b_P_startAnew 7 = .ok (.putfield 17, 3) := by decide +kernel
theorem d_P_startAnew_10 : decode b_P_startAnew 10 = .ok (.aload_n 0, 1) := by decide +kernel
theorem d_P_startAnew_11 : decode b_P_startAnew 11 = .ok (.iconst 0, 1) := by decide +kernel
theorem d_P_startAnew_12 : decode b_P_startAnew 12 = .ok (.putfield 20, 3) := by decide +kernel
theorem d_P_startAnew_15 : decode b_P_startAnew 15 = .ok (.aload_n 0, 1) := by decide +kernel
theorem d_P_startAnew_16 : decode b_P_startAnew 16 = .ok (.iconst 0, 1) := by decide +kernel
theorem d_P_startAnew_17 : decode b_P_startAnew 17 = .ok (.putfield 23, 3) := by decide +kernel
theorem d_P_startAnew_20 : decode b_P_startAnew 20 = .ok (.return_, 1) := by decide +kernel
theorem d_P_receive_0 : decode b_P_receive 0 = .ok (.aload_n 0, 1) := by decide +kernel
theorem d_P_receive_1 : decode b_P_receive 1 = .ok (.iload_n 1, 1) := by decide +kernel
theorem d_P_receive_2 : decode b_P_receive 2 = .ok (.putfield 26, 3) := by decide +kernel
theorem d_P_receive_5 : decode b_P_receive 5 = .ok (.aload_n 0, 1) := by decide +kernel
theorem d_P_receive_6 : decode b_P_receive 6 = .ok (.iload_n 2, 1) := by decide +kernel
theorem d_P_receive_7 : decode b_P_receive 7 = .ok (.putfield 29, 3) := by decide +kernel
theorem d_P_receive_10 : decode b_P_receive 10 = .ok (.return_, 1) := by decide +kernel
theorem d_P_keep_0 : decode b_P_keep 0 = .ok (.aload_n 0, 1) := by decide +kernel
theorem d_P_keep_1 : decode b_P_keep 1 = .ok (.iconst 1, 1) := by decide +kernel
theorem d_P_keep_2 : decode b_P_keep 2 = .ok (.putfield 23, 3) := by decide +kernel
theorem d_P_keep_5 : decode b_P_keep 5 = .ok (.aload_n 0, 1) := by decide +kernel
theorem d_P_keep_6 : decode b_P_keep 6 = .ok (.iload_n 1, 1) := by decide +kernel
theorem d_P_keep_7 : decode b_P_keep 7 = .ok (.putfield 32, 3) := by decide +kernel
theorem d_P_keep_10 : decode b_P_keep 10 = .ok (.aload_n 0, 1) := by decide +kernel
theorem d_P_keep_11 : decode b_P_keep 11 = .ok (.iload_n 2, 1) := by decide +kernel
theorem d_P_keep_12 : decode b_P_keep 12 = .ok (.putfield 35, 3) := by decide +kernel
theorem d_P_keep_15 : decode b_P_keep 15 = .ok (.return_, 1) := by decide +kernel
theorem d_J_floorMod_0 : decode b_J_floorMod 0 = .ok (.iload_n 0, 1) := by decide +kernel
theorem d_J_floorMod_1 : decode b_J_floorMod 1 = .ok (.iload_n 1, 1) := by decide +kernel
theorem d_J_floorMod_2 : decode b_J_floorMod 2 = .ok (.irem, 1) := by decide +kernel
theorem d_J_floorMod_3 : decode b_J_floorMod 3 = .ok (.istore_n 2, 1) := by decide +kernel
theorem d_J_floorMod_4 : decode b_J_floorMod 4 = .ok (.iload_n 0, 1) := by decide +kernel
theorem d_J_floorMod_5 : decode b_J_floorMod 5 = .ok (.iload_n 1, 1) := by decide +kernel
theorem d_J_floorMod_6 : decode b_J_floorMod 6 = .ok (.ixor, 1) := by decide +kernel
theorem d_J_floorMod_7 : decode b_J_floorMod 7 = .ok (.ifCond .ge 11, 3) := by decide +kernel
theorem d_J_floorMod_10 : decode b_J_floorMod 10 = .ok (.iload_n 2, 1) := by decide +kernel
theorem d_J_floorMod_11 : decode b_J_floorMod 11 = .ok (.ifCond .eq 7, 3) := by decide +kernel
theorem d_J_floorMod_14 : decode b_J_floorMod 14 = .ok (.iload_n 2, 1) := by decide +kernel
theorem d_J_floorMod_15 : decode b_J_floorMod 15 = .ok (.iload_n 1, 1) := by decide +kernel
theorem d_J_floorMod_16 : decode b_J_floorMod 16 = .ok (.iadd, 1) := by decide +kernel
theorem d_J_floorMod_17 : decode b_J_floorMod 17 = .ok (.ireturn, 1) := by decide +kernel
theorem d_J_floorMod_18 : decode b_J_floorMod 18 = .ok (.iload_n 2, 1) := by decide +kernel
theorem d_J_floorMod_19 : decode b_J_floorMod 19 = .ok (.ireturn, 1) := by decide +kernel
theorem d_J_fill_0 : decode b_J_fill 0 = .ok (.iconst 0, 1) := by decide +kernel
theorem d_J_fill_1 : decode b_J_fill 1 = .ok (.istore_n 2, 1) := by decide +kernel
theorem d_J_fill_2 : decode b_J_fill 2 = .ok (.aload_n 0, 1) := by decide +kernel
theorem d_J_fill_3 : decode b_J_fill 3 = .ok (.arraylength, 1) := by decide +kernel
theorem d_J_fill_4 : decode b_J_fill 4 = .ok (.istore_n 3, 1) := by decide +kernel
theorem d_J_fill_5 : decode b_J_fill 5 = .ok (.iload_n 2, 1) := by decide +kernel
theorem d_J_fill_6 : decode b_J_fill 6 = .ok (.iload_n 3, 1) := by decide +kernel
theorem d_J_fill_7 : decode b_J_fill 7 = .ok (.if_icmp .ge 13, 3) := by decide +kernel
theorem d_J_fill_10 : decode b_J_fill 10 = .ok (.aload_n 0, 1) := by decide +kernel
theorem d_J_fill_11 : decode b_J_fill 11 = .ok (.iload_n 2, 1) := by decide +kernel
theorem d_J_fill_12 : decode b_J_fill 12 = .ok (.iload_n 1, 1) := by decide +kernel
theorem d_J_fill_13 : decode b_J_fill 13 = .ok (.iastore, 1) := by decide +kernel
theorem d_J_fill_14 : decode b_J_fill 14 = .ok (.iinc 2 1, 3) := by decide +kernel
theorem d_J_fill_17 : decode b_J_fill 17 = .ok (.goto (-12), 3) := by decide +kernel
theorem d_J_fill_20 : decode b_J_fill 20 = .ok (.return_, 1) := by decide +kernel
