theorem d_C_init_0 : decode b_C_init 0 = .ok (.aload_n 0, 1) := by decide +kernel
theorem d_C_init_1 : decode b_C_init 1 = .ok (.invokespecial 1, 3) := by decide +kernel
theorem d_C_init_4 : decode b_C_init 4 = .ok (.aload_n 0, 1) := by decide +kernel
theorem d_C_init_5 : decode b_C_init 5 = .ok (.iload_n 1, 1) := by decide +kernel
theorem d_C_init_6 : decode b_C_init 6 = .ok (.iload_n 2, 1) := by decide +kernel
theorem d_C_init_7 : decode b_C_init 7 = .ok (.iload_n 3, 1) := by decide +kernel
theorem d_C_init_8 : decode b_C_init 8 = .ok (.iload 4, 2) := by decide +kernel
theorem d_C_init_10 : decode b_C_init 10 = .ok (.invokestatic 7, 3) := by decide +kernel
theorem d_C_init_13 : decode b_C_init 13 = .ok (.putfield 13, 3) := by decide +kernel
theorem d_C_init_16 : decode b_C_init 16 = .ok (.aload_n 0, 1) := by decide +kernel
theorem d_C_init_17 : decode b_C_init 17 = .ok (.bipush 7, 2) := by decide +kernel
theorem d_C_init_19 : decode b_C_init 19 = .ok (.newarray .int, 2) := by decide +kernel
theorem d_C_init_21 : decode b_C_init 21 = .ok (.putfield 19, 3) := by decide +kernel
theorem d_C_init_24 : decode b_C_init 24 = .ok (.aload_n 0, 1) := by decide +kernel
theorem d_C_init_25 : decode b_C_init 25 = .ok (.bipush 7, 2) := by decide +kernel
theorem d_C_init_27 : decode b_C_init 27 = .ok (.newarray .int, 2) := by decide +kernel
theorem d_C_init_29 : decode b_C_init 29 = .ok (.putfield 23, 3) := by decide +kernel
theorem d_C_init_32 : decode b_C_init 32 = .ok (.aload_n 0, 1) := by decide +kernel
theorem d_C_init_33 : decode b_C_init 33 = .ok (.bipush 7, 2) := by decide +kernel
theorem d_C_init_35 : decode b_C_init 35 = .ok (.newarray .int, 2) := by decide +kernel
theorem d_C_init_37 : decode b_C_init 37 = .ok (.putfield 26, 3) := by decide +kernel
theorem d_C_init_40 : decode b_C_init 40 = .ok (.aload_n 0, 1) := by decide +kernel
theorem d_C_init_41 : decode b_C_init 41 = .ok (.bipush 7, 2) := by decide +kernel
theorem d_C_init_43 : decode b_C_init 43 = .ok (.anewarray 29, 3) := by decide +kernel
theorem d_C_init_46 : decode b_C_init 46 = .ok (.putfield 31, 3) := by decide +kernel
theorem d_C_init_49 : decode b_C_init 49 = .ok (.iconst 1, 1) := by decide +kernel
theorem d_C_init_50 : decode b_C_init 50 = .ok (.istore 5, 2) := by decide +kernel
theorem d_C_init_52 : decode b_C_init 52 = .ok (.iload 5, 2) := by decide +kernel
theorem d_C_init_54 : decode b_C_init 54 = .ok (.bipush 7, 2) := by decide +kernel
theorem d_C_init_56 : decode b_C_init 56 = .ok (.if_icmp .gt 27, 3) := by decide +kernel
theorem d_C_init_59 : decode b_C_init 59 = .ok (.aload_n 0, 1) := by decide +kernel
theorem d_C_init_60 : decode b_C_init 60 = .ok (.getfield 31, 3) := by decide +kernel
theorem d_C_init_63 : decode b_C_init 63 = .ok (.iload 5, 2) := by decide +kernel
theorem d_C_init_65 : decode b_C_init 65 = .ok (.iconst 1, 1) := by decide +kernel
theorem d_C_init_66 : decode b_C_init 66 = .ok (.isub, 1) := by decide +kernel
theorem d_C_init_67 : decode b_C_init 67 = .ok (.new 29, 3) := by decide +kernel
theorem d_C_init_70 : decode b_C_init 70 = .ok (.dup, 1) := by decide +kernel
theorem d_C_init_71 : decode b_C_init 71 = .ok (.iload 5, 2) := by decide +kernel
theorem d_C_init_73 : decode b_C_init 73 = .ok (.invokespecial 35, 3) := by decide +kernel
theorem d_C_init_76 : decode b_C_init 76 = .ok (.aastore, 1) := by decide +kernel
theorem d_C_init_77 : decode b_C_init 77 = .ok (.iinc 5 1, 3) := by decide +kernel
theorem d_C_init_80 : decode b_C_init 80 = .ok (.goto (-28), 3) := by decide +kernel
theorem d_C_init_83 : decode b_C_init 83 = .ok (.return_, 1) := by decide +kernel
theorem d_C_group_0 : decode b_C_group 0 = .ok (.iload_n 1, 1) := by decide +kernel
theorem d_C_group_1 : decode b_C_group 1 = .ok (.tableswitch 63 0 3 #[31, 39, 47, 55], 31) := by decide +kernel
theorem d_C_group_32 : decode b_C_group 32 = .ok (.aload_n 0, 1) := by decide +kernel
theorem d_C_group_33 : decode b_C_group 33 = .ok (.getfield 13, 3) := by decide +kernel
theorem d_C_group_36 : decode b_C_group 36 = .ok (.getfield 38, 3) := by decide +kernel
theorem d_C_group_39 : decode b_C_group 39 = .ok (.ireturn, 1) := by decide +kernel
theorem d_C_group_40 : decode b_C_group 40 = .ok (.aload_n 0, 1) := by decide +kernel
theorem d_C_group_41 : decode b_C_group 41 = .ok (.getfield 13, 3) := by decide +kernel
theorem d_C_group_44 : decode b_C_group 44 = .ok (.getfield 42, 3) := by decide +kernel
theorem d_C_group_47 : decode b_C_group 47 = .ok (.ireturn, 1) := by decide +kernel
theorem d_C_group_48 : decode b_C_group 48 = .ok (.aload_n 0, 1) := by decide +kernel
theorem d_C_group_49 : decode b_C_group 49 = .ok (.getfield 13, 3) := by decide +kernel
theorem d_C_group_52 : decode b_C_group 52 = .ok (.getfield 45, 3) := by decide +kernel
theorem d_C_group_55 : decode b_C_group 55 = .ok (.ireturn, 1) := by decide +kernel
theorem d_C_group_56 : decode b_C_group 56 = .ok (.aload_n 0, 1) := by decide +kernel
theorem d_C_group_57 : decode b_C_group 57 = .ok (.getfield 13, 3) := by decide +kernel
theorem d_C_group_60 : decode b_C_group 60 = .ok (.getfield 48, 3) := by decide +kernel
theorem d_C_group_63 : decode b_C_group 63 = .ok (.ireturn, 1) := by decide +kernel
theorem d_C_group_64 : decode b_C_group 64 = .ok (.iconst 0, 1) := by decide +kernel
theorem d_C_group_65 : decode b_C_group 65 = .ok (.ireturn, 1) := by decide +kernel
theorem d_C_begin_0 : decode b_C_begin 0 = .ok (.iload_n 1, 1) := by decide +kernel
theorem d_C_begin_1 : decode b_C_begin 1 = .ok (.iconst 1, 1) := by decide +kernel
theorem d_C_begin_2 : decode b_C_begin 2 = .ok (.if_icmp .lt 30, 3) := by decide +kernel
theorem d_C_begin_5 : decode b_C_begin 5 = .ok (.iload_n 1, 1) := by decide +kernel
theorem d_C_begin_6 : decode b_C_begin 6 = .ok (.bipush 7, 2) := by decide +kernel
theorem d_C_begin_8 : decode b_C_begin 8 = .ok (.if_icmp .gt 24, 3) := by decide +kernel
theorem d_C_begin_11 : decode b_C_begin 11 = .ok (.iload_n 2, 1) := by decide +kernel
theorem d_C_begin_12 : decode b_C_begin 12 = .ok (.iconst 1, 1) := by decide +kernel
theorem d_C_begin_13 : decode b_C_begin 13 = .ok (.if_icmp .lt 19, 3) := by decide +kernel
theorem d_C_begin_16 : decode b_C_begin 16 = .ok (.iload_n 2, 1) := by decide +kernel
theorem d_C_begin_17 : decode b_C_begin 17 = .ok (.iload_n 1, 1) := by decide +kernel
theorem d_C_begin_18 : decode b_C_begin 18 = .ok (.if_icmp .gt 14, 3) := by decide +kernel
theorem d_C_begin_21 : decode b_C_begin 21 = .ok (.aload_n 0, 1) := by decide +kernel
theorem d_C_begin_22 : decode b_C_begin 22 = .ok (.getfield 13, 3) := by decide +kernel
theorem d_C_begin_25 : decode b_C_begin 25 = .ok (.getfield 42, 3) := by decide +kernel
theorem d_C_begin_28 : decode b_C_begin 28 = .ok (.iload_n 1, 1) := by decide +kernel
theorem d_C_begin_29 : decode b_C_begin 29 = .ok (.if_icmp .gt 13, 3) := by decide +kernel
theorem d_C_begin_32 : decode b_C_begin 32 = .ok (.new 51, 3) := by decide +kernel
theorem d_C_begin_35 : decode b_C_begin 35 = .ok (.dup, 1) := by decide +kernel
theorem d_C_begin_36 : decode b_C_begin 36 = .ok (.ldc 53, 2) := by decide +kernel
theorem d_C_begin_38 : decode b_C_begin 38 = .ok (.invokespecial 55, 3) := by decide +kernel
theorem d_C_begin_41 : decode b_C_begin 41 = .ok (.athrow, 1) := by decide +kernel
theorem d_C_begin_42 : decode b_C_begin 42 = .ok (.aload_n 0, 1) := by decide +kernel
theorem d_C_begin_43 : decode b_C_begin 43 = .ok (.iload_n 1, 1) := by decide +kernel
theorem d_C_begin_44 : decode b_C_begin 44 = .ok (.putfield 58, 3) := by decide +kernel
theorem d_C_begin_47 : decode b_C_begin 47 = .ok (.aload_n 0, 1) := by decide +kernel
theorem d_C_begin_48 : decode b_C_begin 48 = .ok (.iload_n 2, 1) := by decide +kernel
theorem d_C_begin_49 : decode b_C_begin 49 = .ok (.putfield 61, 3) := by decide +kernel
theorem d_C_begin_52 : decode b_C_begin 52 = .ok (.aload_n 0, 1) := by decide +kernel
theorem d_C_begin_53 : decode b_C_begin 53 = .ok (.iload_n 3, 1) := by decide +kernel
theorem d_C_begin_54 : decode b_C_begin 54 = .ok (.putfield 64, 3) := by decide +kernel
theorem d_C_begin_57 : decode b_C_begin 57 = .ok (.aload_n 0, 1) := by decide +kernel
theorem d_C_begin_58 : decode b_C_begin 58 = .ok (.getfield 19, 3) := by decide +kernel
theorem d_C_begin_61 : decode b_C_begin 61 = .ok (.iconst 0, 1) := by decide +kernel
theorem d_C_begin_62 : decode b_C_begin 62 = .ok (.invokestatic 68, 3) := by decide +kernel
theorem d_C_begin_65 : decode b_C_begin 65 = .ok (.aload_n 0, 1) := by decide +kernel
theorem d_C_begin_66 : decode b_C_begin 66 = .ok (.getfield 23, 3) := by decide +kernel
theorem d_C_begin_69 : decode b_C_begin 69 = .ok (.iconst 0, 1) := by decide +kernel
theorem d_C_begin_70 : decode b_C_begin 70 = .ok (.invokestatic 68, 3) := by decide +kernel
theorem d_C_begin_73 : decode b_C_begin 73 = .ok (.iconst 0, 1) := by decide +kernel
theorem d_C_begin_74 : decode b_C_begin 74 = .ok (.istore 4, 2) := by decide +kernel
theorem d_C_begin_76 : decode b_C_begin 76 = .ok (.iload 4, 2) := by decide +kernel
theorem d_C_begin_78 : decode b_C_begin 78 = .ok (.iload_n 1, 1) := by decide +kernel
theorem d_C_begin_79 : decode b_C_begin 79 = .ok (.if_icmp .ge 19, 3) := by decide +kernel
theorem d_C_begin_82 : decode b_C_begin 82 = .ok (.aload_n 0, 1) := by decide +kernel
theorem d_C_begin_83 : decode b_C_begin 83 = .ok (.getfield 31, 3) := by decide +kernel
theorem d_C_begin_86 : decode b_C_begin 86 = .ok (.iload 4, 2) := by decide +kernel
theorem d_C_begin_88 : decode b_C_begin 88 = .ok (.aaload, 1) := by decide +kernel
theorem d_C_begin_89 : decode b_C_begin 89 = .ok (.invokevirtual 74, 3) := by decide +kernel
theorem d_C_begin_92 : decode b_C_begin 92 = .ok (.iinc 4 1, 3) := by decide +kernel
theorem d_C_begin_95 : decode b_C_begin 95 = .ok (.goto (-19), 3) := by decide +kernel
theorem d_C_begin_98 : decode b_C_begin 98 = .ok (.aload_n 0, 1) := by decide +kernel
theorem d_C_begin_99 : decode b_C_begin 99 = .ok (.iconst 0, 1) := by decide +kernel
theorem d_C_begin_100 : decode b_C_begin 100 = .ok (.putfield 77, 3) := by decide +kernel
theorem d_C_begin_103 : decode b_C_begin 103 = .ok (.aload_n 0, 1) := by decide +kernel
theorem d_C_begin_104 : decode b_C_begin 104 = .ok (.iconst 1, 1) := by decide +kernel
theorem d_C_begin_105 : decode b_C_begin 105 = .ok (.putfield 80, 3) := by decide +kernel
theorem d_C_begin_108 : decode b_C_begin 108 = .ok (.return_, 1) := by decide +kernel
theorem d_C_coefficient_0 : decode b_C_coefficient 0 = .ok (.aload_n 0, 1) := by decide +kernel
theorem d_C_coefficient_1 : decode b_C_coefficient 1 = .ok (.iconst 1, 1) := by decide +kernel
theorem d_C_coefficient_2 : decode b_C_coefficient 2 = .ok (.invokevirtual 83, 3) := by decide +kernel
theorem d_C_coefficient_5 : decode b_C_coefficient 5 = .ok (.aload_n 0, 1) := by decide +kernel
theorem d_C_coefficient_6 : decode b_C_coefficient 6 = .ok (.iload_n 1, 1) := by decide +kernel
theorem d_C_coefficient_7 : decode b_C_coefficient 7 = .ok (.invokevirtual 86, 3) := by decide +kernel
theorem d_C_coefficient_10 : decode b_C_coefficient 10 = .ok (.aload_n 0, 1) := by decide +kernel
theorem d_C_coefficient_11 : decode b_C_coefficient 11 = .ok (.getfield 19, 3) := by decide +kernel
theorem d_C_coefficient_14 : decode b_C_coefficient 14 = .ok (.iload_n 1, 1) := by decide +kernel
theorem d_C_coefficient_15 : decode b_C_coefficient 15 = .ok (.aload_n 0, 1) := by decide +kernel
theorem d_C_coefficient_16 : decode b_C_coefficient 16 = .ok (.getfield 13, 3) := by decide +kernel
theorem d_C_coefficient_19 : decode b_C_coefficient 19 = .ok (.iload_n 2, 1) := by decide +kernel
theorem d_C_coefficient_20 : decode b_C_coefficient 20 = .ok (.invokevirtual 89, 3) := by decide +kernel
theorem d_C_coefficient_23 : decode b_C_coefficient 23 = .ok (.iastore, 1) := by decide +kernel
theorem d_C_coefficient_24 : decode b_C_coefficient 24 = .ok (.aload_n 0, 1) := by decide +kernel
theorem d_C_coefficient_25 : decode b_C_coefficient 25 = .ok (.getfield 23, 3) := by decide +kernel
theorem d_C_coefficient_28 : decode b_C_coefficient 28 = .ok (.iload_n 1, 1) := by decide +kernel
theorem d_C_coefficient_29 : decode b_C_coefficient 29 = .ok (.aload_n 0, 1) := by decide +kernel
theorem d_C_coefficient_30 : decode b_C_coefficient 30 = .ok (.iload_n 3, 1) := by decide +kernel
theorem d_C_coefficient_31 : decode b_C_coefficient 31 = .ok (.invokevirtual 93, 3) := by decide +kernel
theorem d_C_coefficient_34 : decode b_C_coefficient 34 = .ok (.iastore, 1) := by decide +kernel
theorem d_C_coefficient_35 : decode b_C_coefficient 35 = .ok (.return_, 1) := by decide +kernel
theorem d_C_advance_0 : decode b_C_advance 0 = .ok (.aload_n 0, 1) := by decide +kernel
theorem d_C_advance_1 : decode b_C_advance 1 = .ok (.getfield 80, 3) := by decide +kernel
theorem d_C_advance_4 : decode b_C_advance 4 = .ok (.tableswitch 104 1 4 #[32, 48, 60, 84], 32) := by decide +kernel
theorem d_C_advance_36 : decode b_C_advance 36 = .ok (.aload_n 0, 1) := by decide +kernel
theorem d_C_advance_37 : decode b_C_advance 37 = .ok (.invokevirtual 96, 3) := by decide +kernel
theorem d_C_advance_40 : decode b_C_advance 40 = .ok (.aload_n 0, 1) := by decide +kernel
theorem d_C_advance_41 : decode b_C_advance 41 = .ok (.invokevirtual 99, 3) := by decide +kernel
theorem d_C_advance_44 : decode b_C_advance 44 = .ok (.aload_n 0, 1) := by decide +kernel
theorem d_C_advance_45 : decode b_C_advance 45 = .ok (.iconst 2, 1) := by decide +kernel
theorem d_C_advance_46 : decode b_C_advance 46 = .ok (.putfield 80, 3) := by decide +kernel
theorem d_C_advance_49 : decode b_C_advance 49 = .ok (.goto 69, 3) := by decide +kernel
theorem d_C_advance_52 : decode b_C_advance 52 = .ok (.aload_n 0, 1) := by decide +kernel
theorem d_C_advance_53 : decode b_C_advance 53 = .ok (.invokevirtual 102, 3) := by decide +kernel
theorem d_C_advance_56 : decode b_C_advance 56 = .ok (.aload_n 0, 1) := by decide +kernel
theorem d_C_advance_57 : decode b_C_advance 57 = .ok (.iconst 3, 1) := by decide +kernel
theorem d_C_advance_58 : decode b_C_advance 58 = .ok (.putfield 80, 3) := by decide +kernel
theorem d_C_advance_61 : decode b_C_advance 61 = .ok (.goto 57, 3) := by decide +kernel
theorem d_C_advance_64 : decode b_C_advance 64 = .ok (.aload_n 0, 1) := by decide +kernel
theorem d_C_advance_65 : decode b_C_advance 65 = .ok (.aload_n 0, 1) := by decide +kernel
theorem d_C_advance_66 : decode b_C_advance 66 = .ok (.invokevirtual 105, 3) := by decide +kernel
theorem d_C_advance_69 : decode b_C_advance 69 = .ok (.aload_n 0, 1) := by decide +kernel
theorem d_C_advance_70 : decode b_C_advance 70 = .ok (.getfield 61, 3) := by decide +kernel
theorem d_C_advance_73 : decode b_C_advance 73 = .ok (.if_icmp .lt 8, 3) := by decide +kernel
theorem d_C_advance_76 : decode b_C_advance 76 = .ok (.bipush 6, 2) := by decide +kernel
theorem d_C_advance_78 : decode b_C_advance 78 = .ok (.goto 4, 3) := by decide +kernel
theorem d_C_advance_81 : decode b_C_advance 81 = .ok (.iconst 4, 1) := by decide +kernel
theorem d_C_advance_82 : decode b_C_advance 82 = .ok (.putfield 80, 3) := by decide +kernel
theorem d_C_advance_85 : decode b_C_advance 85 = .ok (.goto 33, 3) := by decide +kernel
theorem d_C_advance_88 : decode b_C_advance 88 = .ok (.aload_n 0, 1) := by decide +kernel
theorem d_C_advance_89 : decode b_C_advance 89 = .ok (.aload_n 0, 1) := by decide +kernel
theorem d_C_advance_90 : decode b_C_advance 90 = .ok (.invokevirtual 109, 3) := by decide +kernel
theorem d_C_advance_93 : decode b_C_advance 93 = .ok (.ifCond .eq 7, 3) := by decide +kernel
theorem d_C_advance_96 : decode b_C_advance 96 = .ok (.iconst 5, 1) := by decide +kernel
theorem d_C_advance_97 : decode b_C_advance 97 = .ok (.goto 5, 3) := by decide +kernel
theorem d_C_advance_100 : decode b_C_advance 100 = .ok (.bipush 6, 2) := by decide +kernel
theorem d_C_advance_102 : decode b_C_advance 102 = .ok (.putfield 80, 3) := by decide +kernel
theorem d_C_advance_105 : decode b_C_advance 105 = .ok (.goto 13, 3) := by decide +kernel
theorem d_C_advance_108 : decode b_C_advance 108 = .ok (.new 113, 3) := by decide +kernel
theorem d_C_advance_111 : decode b_C_advance 111 = .ok (.dup, 1) := by decide +kernel
theorem d_C_advance_112 : decode b_C_advance 112 = .ok (.ldc 115, 2) := by decide +kernel
theorem d_C_advance_114 : decode b_C_advance 114 = .ok (.invokespecial 117, 3) := by decide +kernel
theorem d_C_advance_117 : decode b_C_advance 117 = .ok (.athrow, 1) := by decide +kernel
theorem d_C_advance_118 : decode b_C_advance 118 = .ok (.aload_n 0, 1) := by decide +kernel
theorem d_C_advance_119 : decode b_C_advance 119 = .ok (.getfield 80, 3) := by decide +kernel
theorem d_C_advance_122 : decode b_C_advance 122 = .ok (.ireturn, 1) := by decide +kernel
theorem d_C_tamper_0 : decode b_C_tamper 0 = .ok (.aload_n 0, 1) := by decide +kernel
theorem d_C_tamper_1 : decode b_C_tamper 1 = .ok (.iconst 2, 1) := by decide +kernel
theorem d_C_tamper_2 : decode b_C_tamper 2 = .ok (.invokevirtual 83, 3) := by decide +kernel
theorem d_C_tamper_5 : decode b_C_tamper 5 = .ok (.aload_n 0, 1) := by decide +kernel
theorem d_C_tamper_6 : decode b_C_tamper 6 = .ok (.iload_n 1, 1) := by decide +kernel
theorem d_C_tamper_7 : decode b_C_tamper 7 = .ok (.invokevirtual 118, 3) := by decide +kernel
theorem d_C_tamper_10 : decode b_C_tamper 10 = .ok (.aload_n 0, 1) := by decide +kernel
theorem d_C_tamper_11 : decode b_C_tamper 11 = .ok (.getfield 31, 3) := by decide +kernel
theorem d_C_tamper_14 : decode b_C_tamper 14 = .ok (.iload_n 1, 1) := by decide +kernel
theorem d_C_tamper_15 : decode b_C_tamper 15 = .ok (.iconst 1, 1) := by decide +kernel
theorem d_C_tamper_16 : decode b_C_tamper 16 = .ok (.isub, 1) := by decide +kernel
theorem d_C_tamper_17 : decode b_C_tamper 17 = .ok (.aaload, 1) := by decide +kernel
theorem d_C_tamper_18 : decode b_C_tamper 18 = .ok (.aload_n 0, 1) := by decide +kernel
theorem d_C_tamper_19 : decode b_C_tamper 19 = .ok (.getfield 13, 3) := by decide +kernel
theorem d_C_tamper_22 : decode b_C_tamper 22 = .ok (.iload_n 2, 1) := by decide +kernel
theorem d_C_tamper_23 : decode b_C_tamper 23 = .ok (.invokevirtual 89, 3) := by decide +kernel
theorem d_C_tamper_26 : decode b_C_tamper 26 = .ok (.aload_n 0, 1) := by decide +kernel
theorem d_C_tamper_27 : decode b_C_tamper 27 = .ok (.iload_n 3, 1) := by decide +kernel
theorem d_C_tamper_28 : decode b_C_tamper 28 = .ok (.invokevirtual 93, 3) := by decide +kernel
theorem d_C_tamper_31 : decode b_C_tamper 31 = .ok (.invokevirtual 121, 3) := by decide +kernel
theorem d_C_tamper_34 : decode b_C_tamper 34 = .ok (.return_, 1) := by decide +kernel
theorem d_C_forge_0 : decode b_C_forge 0 = .ok (.aload_n 0, 1) := by decide +kernel
theorem d_C_forge_1 : decode b_C_forge 1 = .ok (.iconst 2, 1) := by decide +kernel
theorem d_C_forge_2 : decode b_C_forge 2 = .ok (.invokevirtual 83, 3) := by decide +kernel
theorem d_C_forge_5 : decode b_C_forge 5 = .ok (.aload_n 0, 1) := by decide +kernel
theorem d_C_forge_6 : decode b_C_forge 6 = .ok (.iload_n 1, 1) := by decide +kernel
theorem d_C_forge_7 : decode b_C_forge 7 = .ok (.invokevirtual 86, 3) := by decide +kernel
theorem d_C_forge_10 : decode b_C_forge 10 = .ok (.iload_n 2, 1) := by decide +kernel
theorem d_C_forge_11 : decode b_C_forge 11 = .ok (.iconst 1, 1) := by decide +kernel
theorem d_C_forge_12 : decode b_C_forge 12 = .ok (.if_icmp .lt 14, 3) := by decide +kernel
theorem d_C_forge_15 : decode b_C_forge 15 = .ok (.iload_n 2, 1) := by decide +kernel
theorem d_C_forge_16 : decode b_C_forge 16 = .ok (.aload_n 0, 1) := by decide +kernel
theorem d_C_forge_17 : decode b_C_forge 17 = .ok (.getfield 13, 3) := by decide +kernel
theorem d_C_forge_20 : decode b_C_forge 20 = .ok (.getfield 38, 3) := by decide +kernel
theorem d_C_forge_23 : decode b_C_forge 23 = .ok (.if_icmp .lt 13, 3) := by decide +kernel
theorem d_C_forge_26 : decode b_C_forge 26 = .ok (.new 51, 3) := by decide +kernel
theorem d_C_forge_29 : decode b_C_forge 29 = .ok (.dup, 1) := by decide +kernel
theorem d_C_forge_30 : decode b_C_forge 30 = .ok (.ldc 125, 2) := by decide +kernel
theorem d_C_forge_32 : decode b_C_forge 32 = .ok (.invokespecial 55, 3) := by decide +kernel
theorem d_C_forge_35 : decode b_C_forge 35 = .ok (.athrow, 1) := by decide +kernel
theorem d_C_forge_36 : decode b_C_forge 36 = .ok (.aload_n 0, 1) := by decide +kernel
theorem d_C_forge_37 : decode b_C_forge 37 = .ok (.getfield 26, 3) := by decide +kernel
theorem d_C_forge_40 : decode b_C_forge 40 = .ok (.iload_n 1, 1) := by decide +kernel
theorem d_C_forge_41 : decode b_C_forge 41 = .ok (.iload_n 2, 1) := by decide +kernel
theorem d_C_forge_42 : decode b_C_forge 42 = .ok (.iastore, 1) := by decide +kernel
theorem d_C_forge_43 : decode b_C_forge 43 = .ok (.return_, 1) := by decide +kernel
theorem d_C_corrupt_0 : decode b_C_corrupt 0 = .ok (.aload_n 0, 1) := by decide +kernel
theorem d_C_corrupt_1 : decode b_C_corrupt 1 = .ok (.getfield 80, 3) := by decide +kernel
theorem d_C_corrupt_4 : decode b_C_corrupt 4 = .ok (.iconst 1, 1) := by decide +kernel
theorem d_C_corrupt_5 : decode b_C_corrupt 5 = .ok (.if_icmp .eq 21, 3) := by decide +kernel
theorem d_C_corrupt_8 : decode b_C_corrupt 8 = .ok (.aload_n 0, 1) := by decide +kernel
theorem d_C_corrupt_9 : decode b_C_corrupt 9 = .ok (.getfield 80, 3) := by decide +kernel
theorem d_C_corrupt_12 : decode b_C_corrupt 12 = .ok (.iconst 2, 1) := by decide +kernel
theorem d_C_corrupt_13 : decode b_C_corrupt 13 = .ok (.if_icmp .eq 13, 3) := by decide +kernel
theorem d_C_corrupt_16 : decode b_C_corrupt 16 = .ok (.new 113, 3) := by decide +kernel
theorem d_C_corrupt_19 : decode b_C_corrupt 19 = .ok (.dup, 1) := by decide +kernel
theorem d_C_corrupt_20 : decode b_C_corrupt 20 = .ok (.ldc 127, 2) := by decide +kernel
theorem d_C_corrupt_22 : decode b_C_corrupt 22 = .ok (.invokespecial 117, 3) := by decide +kernel
theorem d_C_corrupt_25 : decode b_C_corrupt 25 = .ok (.athrow, 1) := by decide +kernel
theorem d_C_corrupt_26 : decode b_C_corrupt 26 = .ok (.aload_n 0, 1) := by decide +kernel
theorem d_C_corrupt_27 : decode b_C_corrupt 27 = .ok (.iload_n 1, 1) := by decide +kernel
theorem d_C_corrupt_28 : decode b_C_corrupt 28 = .ok (.invokevirtual 118, 3) := by decide +kernel
theorem d_C_corrupt_31 : decode b_C_corrupt 31 = .ok (.aload_n 0, 1) := by decide +kernel
theorem d_C_corrupt_32 : decode b_C_corrupt 32 = .ok (.getfield 31, 3) := by decide +kernel
theorem d_C_corrupt_35 : decode b_C_corrupt 35 = .ok (.iload_n 1, 1) := by decide +kernel
theorem d_C_corrupt_36 : decode b_C_corrupt 36 = .ok (.iconst 1, 1) := by decide +kernel
theorem d_C_corrupt_37 : decode b_C_corrupt 37 = .ok (.isub, 1) := by decide +kernel
theorem d_C_corrupt_38 : decode b_C_corrupt 38 = .ok (.aaload, 1) := by decide +kernel
theorem d_C_corrupt_39 : decode b_C_corrupt 39 = .ok (.astore_n 2, 1) := by decide +kernel
theorem d_C_corrupt_40 : decode b_C_corrupt 40 = .ok (.aload_n 2, 1) := by decide +kernel
theorem d_C_corrupt_41 : decode b_C_corrupt 41 = .ok (.getfield 129, 3) := by decide +kernel
theorem d_C_corrupt_44 : decode b_C_corrupt 44 = .ok (.ifCond .ne 7, 3) := by decide +kernel
theorem d_C_corrupt_47 : decode b_C_corrupt 47 = .ok (.iconst 1, 1) := by decide +kernel
theorem d_C_corrupt_48 : decode b_C_corrupt 48 = .ok (.goto 4, 3) := by decide +kernel
theorem d_C_corrupt_51 : decode b_C_corrupt 51 = .ok (.iconst 0, 1) := by decide +kernel
theorem d_C_corrupt_52 : decode b_C_corrupt 52 = .ok (.istore_n 3, 1) := by decide +kernel
theorem d_C_corrupt_53 : decode b_C_corrupt 53 = .ok (.aload_n 2, 1) := by decide +kernel
theorem d_C_corrupt_54 : decode b_C_corrupt 54 = .ok (.iconst 1, 1) := by decide +kernel
theorem d_C_corrupt_55 : decode b_C_corrupt 55 = .ok (.putfield 129, 3) := by decide +kernel
theorem d_C_corrupt_58 : decode b_C_corrupt 58 = .ok (.iload_n 3, 1) := by decide +kernel
theorem d_C_corrupt_59 : decode b_C_corrupt 59 = .ok (.ireturn, 1) := by decide +kernel
theorem d_C_accuse_0 : decode b_C_accuse 0 = .ok (.aload_n 0, 1) := by decide +kernel
theorem d_C_accuse_1 : decode b_C_accuse 1 = .ok (.iconst 3, 1) := by decide +kernel
theorem d_C_accuse_2 : decode b_C_accuse 2 = .ok (.invokevirtual 83, 3) := by decide +kernel
theorem d_C_accuse_5 : decode b_C_accuse 5 = .ok (.aload_n 0, 1) := by decide +kernel
theorem d_C_accuse_6 : decode b_C_accuse 6 = .ok (.iload_n 1, 1) := by decide +kernel
theorem d_C_accuse_7 : decode b_C_accuse 7 = .ok (.invokevirtual 118, 3) := by decide +kernel
theorem d_C_accuse_10 : decode b_C_accuse 10 = .ok (.aload_n 0, 1) := by decide +kernel
theorem d_C_accuse_11 : decode b_C_accuse 11 = .ok (.getfield 31, 3) := by decide +kernel
theorem d_C_accuse_14 : decode b_C_accuse 14 = .ok (.iload_n 1, 1) := by decide +kernel
theorem d_C_accuse_15 : decode b_C_accuse 15 = .ok (.iconst 1, 1) := by decide +kernel
theorem d_C_accuse_16 : decode b_C_accuse 16 = .ok (.isub, 1) := by decide +kernel
theorem d_C_accuse_17 : decode b_C_accuse 17 = .ok (.aaload, 1) := by decide +kernel
theorem d_C_accuse_18 : decode b_C_accuse 18 = .ok (.astore_n 2, 1) := by decide +kernel
theorem d_C_accuse_19 : decode b_C_accuse 19 = .ok (.aload_n 2, 1) := by decide +kernel
theorem d_C_accuse_20 : decode b_C_accuse 20 = .ok (.getfield 129, 3) := by decide +kernel
theorem d_C_accuse_23 : decode b_C_accuse 23 = .ok (.ifCond .eq 10, 3) := by decide +kernel
theorem d_C_accuse_26 : decode b_C_accuse 26 = .ok (.aload_n 2, 1) := by decide +kernel
theorem d_C_accuse_27 : decode b_C_accuse 27 = .ok (.getfield 132, 3) := by decide +kernel
theorem d_C_accuse_30 : decode b_C_accuse 30 = .ok (.ifCond .eq 5, 3) := by decide +kernel
theorem d_C_accuse_33 : decode b_C_accuse 33 = .ok (.iconst 0, 1) := by decide +kernel
theorem d_C_accuse_34 : decode b_C_accuse 34 = .ok (.ireturn, 1) := by decide +kernel
theorem d_C_accuse_35 : decode b_C_accuse 35 = .ok (.aload_n 2, 1) := by decide +kernel
theorem d_C_accuse_36 : decode b_C_accuse 36 = .ok (.iconst 1, 1) := by decide +kernel
theorem d_C_accuse_37 : decode b_C_accuse 37 = .ok (.putfield 132, 3) := by decide +kernel
theorem d_C_accuse_40 : decode b_C_accuse 40 = .ok (.iconst 1, 1) := by decide +kernel
theorem d_C_accuse_41 : decode b_C_accuse 41 = .ok (.ireturn, 1) := by decide +kernel
theorem d_C_answer_0 : decode b_C_answer 0 = .ok (.aload_n 0, 1) := by decide +kernel
theorem d_C_answer_1 : decode b_C_answer 1 = .ok (.iconst 4, 1) := by decide +kernel
theorem d_C_answer_2 : decode b_C_answer 2 = .ok (.invokevirtual 83, 3) := by decide +kernel
theorem d_C_answer_5 : decode b_C_answer 5 = .ok (.aload_n 0, 1) := by decide +kernel
theorem d_C_answer_6 : decode b_C_answer 6 = .ok (.iload_n 1, 1) := by decide +kernel
theorem d_C_answer_7 : decode b_C_answer 7 = .ok (.invokevirtual 118, 3) := by decide +kernel
theorem d_C_answer_10 : decode b_C_answer 10 = .ok (.aload_n 0, 1) := by decide +kernel
theorem d_C_answer_11 : decode b_C_answer 11 = .ok (.getfield 31, 3) := by decide +kernel
theorem d_C_answer_14 : decode b_C_answer 14 = .ok (.iload_n 1, 1) := by decide +kernel
theorem d_C_answer_15 : decode b_C_answer 15 = .ok (.iconst 1, 1) := by decide +kernel
theorem d_C_answer_16 : decode b_C_answer 16 = .ok (.isub, 1) := by decide +kernel
theorem d_C_answer_17 : decode b_C_answer 17 = .ok (.aaload, 1) := by decide +kernel
theorem d_C_answer_18 : decode b_C_answer 18 = .ok (.astore 4, 2) := by decide +kernel
theorem d_C_answer_20 : decode b_C_answer 20 = .ok (.aload 4, 2) := by decide +kernel
theorem d_C_answer_22 : decode b_C_answer 22 = .ok (.getfield 132, 3) := by decide +kernel
theorem d_C_answer_25 : decode b_C_answer 25 = .ok (.ifCond .ne 13, 3) := by decide +kernel
theorem d_C_answer_28 : decode b_C_answer 28 = .ok (.new 135, 3) := by decide +kernel
theorem d_C_answer_31 : decode b_C_answer 31 = .ok (.dup, 1) := by decide +kernel
theorem d_C_answer_32 : decode b_C_answer 32 = .ok (.ldc 137, 2) := by decide +kernel
theorem d_C_answer_34 : decode b_C_answer 34 = .ok (.invokespecial 139, 3) := by decide +kernel
theorem d_C_answer_37 : decode b_C_answer 37 = .ok (.athrow, 1) := by decide +kernel
theorem d_C_answer_38 : decode b_C_answer 38 = .ok (.aload 4, 2) := by decide +kernel
theorem d_C_answer_40 : decode b_C_answer 40 = .ok (.aload_n 0, 1) := by decide +kernel
theorem d_C_answer_41 : decode b_C_answer 41 = .ok (.getfield 13, 3) := by decide +kernel
theorem d_C_answer_44 : decode b_C_answer 44 = .ok (.iload_n 2, 1) := by decide +kernel
theorem d_C_answer_45 : decode b_C_answer 45 = .ok (.invokevirtual 89, 3) := by decide +kernel
theorem d_C_answer_48 : decode b_C_answer 48 = .ok (.aload_n 0, 1) := by decide +kernel
theorem d_C_answer_49 : decode b_C_answer 49 = .ok (.iload_n 3, 1) := by decide +kernel
theorem d_C_answer_50 : decode b_C_answer 50 = .ok (.invokevirtual 93, 3) := by decide +kernel
theorem d_C_answer_53 : decode b_C_answer 53 = .ok (.invokevirtual 121, 3) := by decide +kernel
theorem d_C_answer_56 : decode b_C_answer 56 = .ok (.aload 4, 2) := by decide +kernel
theorem d_C_answer_58 : decode b_C_answer 58 = .ok (.aload_n 0, 1) := by decide +kernel
theorem d_C_answer_59 : decode b_C_answer 59 = .ok (.aload 4, 2) := by decide +kernel
theorem d_C_answer_61 : decode b_C_answer 61 = .ok (.invokevirtual 140, 3) := by decide +kernel
theorem d_C_answer_64 : decode b_C_answer 64 = .ok (.putfield 144, 3) := by decide +kernel
theorem d_C_answer_67 : decode b_C_answer 67 = .ok (.aload 4, 2) := by decide +kernel
theorem d_C_answer_69 : decode b_C_answer 69 = .ok (.getfield 144, 3) := by decide +kernel
theorem d_C_answer_72 : decode b_C_answer 72 = .ok (.ireturn, 1) := by decide +kernel
theorem d_C_open_0 : decode b_C_open 0 = .ok (.aload_n 0, 1) := by decide +kernel
theorem d_C_open_1 : decode b_C_open 1 = .ok (.iconst 5, 1) := by decide +kernel
theorem d_C_open_2 : decode b_C_open 2 = .ok (.invokevirtual 83, 3) := by decide +kernel
theorem d_C_open_5 : decode b_C_open 5 = .ok (.aload_n 0, 1) := by decide +kernel
theorem d_C_open_6 : decode b_C_open 6 = .ok (.iload_n 1, 1) := by decide +kernel
theorem d_C_open_7 : decode b_C_open 7 = .ok (.invokevirtual 118, 3) := by decide +kernel
theorem d_C_open_10 : decode b_C_open 10 = .ok (.aload_n 0, 1) := by decide +kernel
theorem d_C_open_11 : decode b_C_open 11 = .ok (.getfield 31, 3) := by decide +kernel
theorem d_C_open_14 : decode b_C_open 14 = .ok (.iload_n 1, 1) := by decide +kernel
theorem d_C_open_15 : decode b_C_open 15 = .ok (.iconst 1, 1) := by decide +kernel
theorem d_C_open_16 : decode b_C_open 16 = .ok (.isub, 1) := by decide +kernel
theorem d_C_open_17 : decode b_C_open 17 = .ok (.aaload, 1) := by decide +kernel
theorem d_C_open_18 : decode b_C_open 18 = .ok (.astore_n 2, 1) := by decide +kernel
theorem d_C_open_19 : decode b_C_open 19 = .ok (.aload_n 0, 1) := by decide +kernel
theorem d_C_open_20 : decode b_C_open 20 = .ok (.aload_n 2, 1) := by decide +kernel
theorem d_C_open_21 : decode b_C_open 21 = .ok (.aload_n 2, 1) := by decide +kernel
theorem d_C_open_22 : decode b_C_open 22 = .ok (.getfield 147, 3) := by decide +kernel
theorem d_C_open_25 : decode b_C_open 25 = .ok (.aload_n 2, 1) := by decide +kernel
theorem d_C_open_26 : decode b_C_open 26 = .ok (.getfield 150, 3) := by decide +kernel
theorem d_C_open_29 : decode b_C_open 29 = .ok (.invokevirtual 153, 3) := by decide +kernel
theorem d_C_open_32 : decode b_C_open 32 = .ok (.ireturn, 1) := by decide +kernel
theorem d_C_show_0 : decode b_C_show 0 = .ok (.aload_n 0, 1) := by decide +kernel
theorem d_C_show_1 : decode b_C_show 1 = .ok (.iconst 5, 1) := by decide +kernel
theorem d_C_show_2 : decode b_C_show 2 = .ok (.invokevirtual 83, 3) := by decide +kernel
theorem d_C_show_5 : decode b_C_show 5 = .ok (.aload_n 0, 1) := by decide +kernel
theorem d_C_show_6 : decode b_C_show 6 = .ok (.iload_n 1, 1) := by decide +kernel
theorem d_C_show_7 : decode b_C_show 7 = .ok (.invokevirtual 118, 3) := by decide +kernel
theorem d_C_show_10 : decode b_C_show 10 = .ok (.aload_n 0, 1) := by decide +kernel
theorem d_C_show_11 : decode b_C_show 11 = .ok (.aload_n 0, 1) := by decide +kernel
theorem d_C_show_12 : decode b_C_show 12 = .ok (.getfield 31, 3) := by decide +kernel
theorem d_C_show_15 : decode b_C_show 15 = .ok (.iload_n 1, 1) := by decide +kernel
theorem d_C_show_16 : decode b_C_show 16 = .ok (.iconst 1, 1) := by decide +kernel
theorem d_C_show_17 : decode b_C_show 17 = .ok (.isub, 1) := by decide +kernel
theorem d_C_show_18 : decode b_C_show 18 = .ok (.aaload, 1) := by decide +kernel
theorem d_C_show_19 : decode b_C_show 19 = .ok (.aload_n 0, 1) := by decide +kernel
theorem d_C_show_20 : decode b_C_show 20 = .ok (.getfield 13, 3) := by decide +kernel
theorem d_C_show_23 : decode b_C_show 23 = .ok (.iload_n 2, 1) := by decide +kernel
theorem d_C_show_24 : decode b_C_show 24 = .ok (.invokevirtual 89, 3) := by decide +kernel
theorem d_C_show_27 : decode b_C_show 27 = .ok (.aload_n 0, 1) := by decide +kernel
theorem d_C_show_28 : decode b_C_show 28 = .ok (.getfield 13, 3) := by decide +kernel
theorem d_C_show_31 : decode b_C_show 31 = .ok (.iload_n 3, 1) := by decide +kernel
theorem d_C_show_32 : decode b_C_show 32 = .ok (.invokevirtual 89, 3) := by decide +kernel
theorem d_C_show_35 : decode b_C_show 35 = .ok (.invokevirtual 153, 3) := by decide +kernel
theorem d_C_show_38 : decode b_C_show 38 = .ok (.ireturn, 1) := by decide +kernel
theorem d_C_secret_0 : decode b_C_secret 0 = .ok (.aload_n 0, 1) := by decide +kernel
theorem d_C_secret_1 : decode b_C_secret 1 = .ok (.iconst 5, 1) := by decide +kernel
theorem d_C_secret_2 : decode b_C_secret 2 = .ok (.invokevirtual 83, 3) := by decide +kernel
theorem d_C_secret_5 : decode b_C_secret 5 = .ok (.aload_n 0, 1) := by decide +kernel
theorem d_C_secret_6 : decode b_C_secret 6 = .ok (.invokevirtual 157, 3) := by decide +kernel
theorem d_C_secret_9 : decode b_C_secret 9 = .ok (.aload_n 0, 1) := by decide +kernel
theorem d_C_secret_10 : decode b_C_secret 10 = .ok (.getfield 61, 3) := by decide +kernel
theorem d_C_secret_13 : decode b_C_secret 13 = .ok (.if_icmp .ge 13, 3) := by decide +kernel
theorem d_C_secret_16 : decode b_C_secret 16 = .ok (.new 135, 3) := by decide +kernel
theorem d_C_secret_19 : decode b_C_secret 19 = .ok (.dup, 1) := by decide +kernel
theorem d_C_secret_20 : decode b_C_secret 20 = .ok (.ldc 160, 2) := by decide +kernel
theorem d_C_secret_22 : decode b_C_secret 22 = .ok (.invokespecial 139, 3) := by decide +kernel
theorem d_C_secret_25 : decode b_C_secret 25 = .ok (.athrow, 1) := by decide +kernel
theorem d_C_secret_26 : decode b_C_secret 26 = .ok (.aload_n 0, 1) := by decide +kernel
theorem d_C_secret_27 : decode b_C_secret 27 = .ok (.invokevirtual 162, 3) := by decide +kernel
theorem d_C_secret_30 : decode b_C_secret 30 = .ok (.istore_n 1, 1) := by decide +kernel
theorem d_C_secret_31 : decode b_C_secret 31 = .ok (.iconst 0, 1) := by decide +kernel
theorem d_C_secret_32 : decode b_C_secret 32 = .ok (.istore_n 2, 1) := by decide +kernel
theorem d_C_secret_33 : decode b_C_secret 33 = .ok (.iconst 1, 1) := by decide +kernel
theorem d_C_secret_34 : decode b_C_secret 34 = .ok (.istore_n 3, 1) := by decide +kernel
theorem d_C_secret_35 : decode b_C_secret 35 = .ok (.iload_n 3, 1) := by decide +kernel
theorem d_C_secret_36 : decode b_C_secret 36 = .ok (.iload_n 1, 1) := by decide +kernel
theorem d_C_secret_37 : decode b_C_secret 37 = .ok (.if_icmp .gt 60, 3) := by decide +kernel
theorem d_C_secret_40 : decode b_C_secret 40 = .ok (.aload_n 0, 1) := by decide +kernel
theorem d_C_secret_41 : decode b_C_secret 41 = .ok (.getfield 31, 3) := by decide +kernel
theorem d_C_secret_44 : decode b_C_secret 44 = .ok (.iload_n 3, 1) := by decide +kernel
theorem d_C_secret_45 : decode b_C_secret 45 = .ok (.iconst 1, 1) := by decide +kernel
theorem d_C_secret_46 : decode b_C_secret 46 = .ok (.isub, 1) := by decide +kernel
theorem d_C_secret_47 : decode b_C_secret 47 = .ok (.aaload, 1) := by decide +kernel
theorem d_C_secret_48 : decode b_C_secret 48 = .ok (.getfield 165, 3) := by decide +kernel
theorem d_C_secret_51 : decode b_C_secret 51 = .ok (.ifCond .eq 40, 3) := by decide +kernel
theorem d_C_secret_54 : decode b_C_secret 54 = .ok (.aload_n 0, 1) := by decide +kernel
theorem d_C_secret_55 : decode b_C_secret 55 = .ok (.getfield 13, 3) := by decide +kernel
theorem d_C_secret_58 : decode b_C_secret 58 = .ok (.aload_n 0, 1) := by decide +kernel
theorem d_C_secret_59 : decode b_C_secret 59 = .ok (.getfield 31, 3) := by decide +kernel
theorem d_C_secret_62 : decode b_C_secret 62 = .ok (.iload_n 3, 1) := by decide +kernel
theorem d_C_secret_63 : decode b_C_secret 63 = .ok (.iconst 1, 1) := by decide +kernel
theorem d_C_secret_64 : decode b_C_secret 64 = .ok (.isub, 1) := by decide +kernel
theorem d_C_secret_65 : decode b_C_secret 65 = .ok (.aaload, 1) := by decide +kernel
theorem d_C_secret_66 : decode b_C_secret 66 = .ok (.getfield 168, 3) := by decide +kernel
theorem d_C_secret_69 : decode b_C_secret 69 = .ok (.aload_n 0, 1) := by decide +kernel
theorem d_C_secret_70 : decode b_C_secret 70 = .ok (.iload_n 3, 1) := by decide +kernel
theorem d_C_secret_71 : decode b_C_secret 71 = .ok (.iload_n 1, 1) := by decide +kernel
theorem d_C_secret_72 : decode b_C_secret 72 = .ok (.invokevirtual 171, 3) := by decide +kernel
theorem d_C_secret_75 : decode b_C_secret 75 = .ok (.invokevirtual 175, 3) := by decide +kernel
theorem d_C_secret_78 : decode b_C_secret 78 = .ok (.istore 4, 2) := by decide +kernel
theorem d_C_secret_80 : decode b_C_secret 80 = .ok (.aload_n 0, 1) := by decide +kernel
theorem d_C_secret_81 : decode b_C_secret 81 = .ok (.getfield 13, 3) := by decide +kernel
theorem d_C_secret_84 : decode b_C_secret 84 = .ok (.iload_n 2, 1) := by decide +kernel
theorem d_C_secret_85 : decode b_C_secret 85 = .ok (.iload 4, 2) := by decide +kernel
theorem d_C_secret_87 : decode b_C_secret 87 = .ok (.invokevirtual 178, 3) := by decide +kernel
theorem d_C_secret_90 : decode b_C_secret 90 = .ok (.istore_n 2, 1) := by decide +kernel
theorem d_C_secret_91 : decode b_C_secret 91 = .ok (.iinc 3 1, 3) := by decide +kernel
theorem d_C_secret_94 : decode b_C_secret 94 = .ok (.goto (-59), 3) := by decide +kernel
theorem d_C_secret_97 : decode b_C_secret 97 = .ok (.iload_n 2, 1) := by decide +kernel
theorem d_C_secret_98 : decode b_C_secret 98 = .ok (.ireturn, 1) := by decide +kernel
theorem d_C_relation_0 : decode b_C_relation 0 = .ok (.aload_n 0, 1) := by decide +kernel
theorem d_C_relation_1 : decode b_C_relation 1 = .ok (.iconst 5, 1) := by decide +kernel
theorem d_C_relation_2 : decode b_C_relation 2 = .ok (.invokevirtual 83, 3) := by decide +kernel
theorem d_C_relation_5 : decode b_C_relation 5 = .ok (.aload_n 0, 1) := by decide +kernel
theorem d_C_relation_6 : decode b_C_relation 6 = .ok (.getfield 77, 3) := by decide +kernel
theorem d_C_relation_9 : decode b_C_relation 9 = .ok (.ifCond .ne 13, 3) := by decide +kernel
theorem d_C_relation_12 : decode b_C_relation 12 = .ok (.new 135, 3) := by decide +kernel
theorem d_C_relation_15 : decode b_C_relation 15 = .ok (.dup, 1) := by decide +kernel
theorem d_C_relation_16 : decode b_C_relation 16 = .ok (.ldc 181, 2) := by decide +kernel
theorem d_C_relation_18 : decode b_C_relation 18 = .ok (.invokespecial 139, 3) := by decide +kernel
theorem d_C_relation_21 : decode b_C_relation 21 = .ok (.athrow, 1) := by decide +kernel
theorem d_C_relation_22 : decode b_C_relation 22 = .ok (.aload_n 0, 1) := by decide +kernel
theorem d_C_relation_23 : decode b_C_relation 23 = .ok (.getfield 183, 3) := by decide +kernel
theorem d_C_relation_26 : decode b_C_relation 26 = .ok (.ireturn, 1) := by decide +kernel
theorem d_C_stage_0 : decode b_C_stage 0 = .ok (.aload_n 0, 1) := by decide +kernel
theorem d_C_stage_1 : decode b_C_stage 1 = .ok (.getfield 80, 3) := by decide +kernel
theorem d_C_stage_4 : decode b_C_stage 4 = .ok (.ireturn, 1) := by decide +kernel
theorem d_C_commitment_0 : decode b_C_commitment 0 = .ok (.aload_n 0, 1) := by decide +kernel
theorem d_C_commitment_1 : decode b_C_commitment 1 = .ok (.invokevirtual 186, 3) := by decide +kernel
theorem d_C_commitment_4 : decode b_C_commitment 4 = .ok (.ifCond .eq 20, 3) := by decide +kernel
theorem d_C_commitment_7 : decode b_C_commitment 7 = .ok (.aload_n 0, 1) := by decide +kernel
theorem d_C_commitment_8 : decode b_C_commitment 8 = .ok (.iload_n 1, 1) := by decide +kernel
theorem d_C_commitment_9 : decode b_C_commitment 9 = .ok (.invokevirtual 189, 3) := by decide +kernel
theorem d_C_commitment_12 : decode b_C_commitment 12 = .ok (.ifCond .eq 12, 3) := by decide +kernel
theorem d_C_commitment_15 : decode b_C_commitment 15 = .ok (.aload_n 0, 1) := by decide +kernel
theorem d_C_commitment_16 : decode b_C_commitment 16 = .ok (.getfield 26, 3) := by decide +kernel
theorem d_C_commitment_19 : decode b_C_commitment 19 = .ok (.iload_n 1, 1) := by decide +kernel
theorem d_C_commitment_20 : decode b_C_commitment 20 = .ok (.iaload, 1) := by decide +kernel
theorem d_C_commitment_21 : decode b_C_commitment 21 = .ok (.goto 4, 3) := by decide +kernel
theorem d_C_commitment_24 : decode b_C_commitment 24 = .ok (.iconst 0, 1) := by decide +kernel
theorem d_C_commitment_25 : decode b_C_commitment 25 = .ok (.ireturn, 1) := by decide +kernel
theorem d_C_share_0 : decode b_C_share 0 = .ok (.aload_n 0, 1) := by decide +kernel
theorem d_C_share_1 : decode b_C_share 1 = .ok (.invokevirtual 186, 3) := by decide +kernel
theorem d_C_share_4 : decode b_C_share 4 = .ok (.ifCond .eq 11, 3) := by decide +kernel
theorem d_C_share_7 : decode b_C_share 7 = .ok (.aload_n 0, 1) := by decide +kernel
theorem d_C_share_8 : decode b_C_share 8 = .ok (.iload_n 1, 1) := by decide +kernel
theorem d_C_share_9 : decode b_C_share 9 = .ok (.invokevirtual 193, 3) := by decide +kernel
theorem d_C_share_12 : decode b_C_share 12 = .ok (.ifCond .ne 5, 3) := by decide +kernel
theorem d_C_share_15 : decode b_C_share 15 = .ok (.iconst (-1), 1) := by decide +kernel
theorem d_C_share_16 : decode b_C_share 16 = .ok (.ireturn, 1) := by decide +kernel
theorem d_C_share_17 : decode b_C_share 17 = .ok (.iload_n 2, 1) := by decide +kernel
theorem d_C_share_18 : decode b_C_share 18 = .ok (.lookupswitch 50 #[(0, 26), (1, 38)], 26) := by decide +kernel
theorem d_C_share_44 : decode b_C_share 44 = .ok (.aload_n 0, 1) := by decide +kernel
theorem d_C_share_45 : decode b_C_share 45 = .ok (.getfield 31, 3) := by decide +kernel
theorem d_C_share_48 : decode b_C_share 48 = .ok (.iload_n 1, 1) := by decide +kernel
theorem d_C_share_49 : decode b_C_share 49 = .ok (.iconst 1, 1) := by decide +kernel
theorem d_C_share_50 : decode b_C_share 50 = .ok (.isub, 1) := by decide +kernel
theorem d_C_share_51 : decode b_C_share 51 = .ok (.aaload, 1) := by decide +kernel
theorem d_C_share_52 : decode b_C_share 52 = .ok (.getfield 147, 3) := by decide +kernel
theorem d_C_share_55 : decode b_C_share 55 = .ok (.ireturn, 1) := by decide +kernel
theorem d_C_share_56 : decode b_C_share 56 = .ok (.aload_n 0, 1) := by decide +kernel
theorem d_C_share_57 : decode b_C_share 57 = .ok (.getfield 31, 3) := by decide +kernel
theorem d_C_share_60 : decode b_C_share 60 = .ok (.iload_n 1, 1) := by decide +kernel
theorem d_C_share_61 : decode b_C_share 61 = .ok (.iconst 1, 1) := by decide +kernel
theorem d_C_share_62 : decode b_C_share 62 = .ok (.isub, 1) := by decide +kernel
theorem d_C_share_63 : decode b_C_share 63 = .ok (.aaload, 1) := by decide +kernel
theorem d_C_share_64 : decode b_C_share 64 = .ok (.getfield 150, 3) := by decide +kernel
theorem d_C_share_67 : decode b_C_share 67 = .ok (.ireturn, 1) := by decide +kernel
theorem d_C_share_68 : decode b_C_share 68 = .ok (.iconst (-1), 1) := by decide +kernel
theorem d_C_share_69 : decode b_C_share 69 = .ok (.ireturn, 1) := by decide +kernel
theorem d_C_fits_0 : decode b_C_fits 0 = .ok (.aload_n 0, 1) := by decide +kernel
theorem d_C_fits_1 : decode b_C_fits 1 = .ok (.invokevirtual 186, 3) := by decide +kernel
theorem d_C_fits_4 : decode b_C_fits 4 = .ok (.ifCond .eq 30, 3) := by decide +kernel
theorem d_C_fits_7 : decode b_C_fits 7 = .ok (.aload_n 0, 1) := by decide +kernel
theorem d_C_fits_8 : decode b_C_fits 8 = .ok (.iload_n 1, 1) := by decide +kernel
theorem d_C_fits_9 : decode b_C_fits 9 = .ok (.invokevirtual 193, 3) := by decide +kernel
theorem d_C_fits_12 : decode b_C_fits 12 = .ok (.ifCond .eq 22, 3) := by decide +kernel
theorem d_C_fits_15 : decode b_C_fits 15 = .ok (.aload_n 0, 1) := by decide +kernel
theorem d_C_fits_16 : decode b_C_fits 16 = .ok (.aload_n 0, 1) := by decide +kernel
theorem d_C_fits_17 : decode b_C_fits 17 = .ok (.getfield 31, 3) := by decide +kernel
theorem d_C_fits_20 : decode b_C_fits 20 = .ok (.iload_n 1, 1) := by decide +kernel
theorem d_C_fits_21 : decode b_C_fits 21 = .ok (.iconst 1, 1) := by decide +kernel
theorem d_C_fits_22 : decode b_C_fits 22 = .ok (.isub, 1) := by decide +kernel
theorem d_C_fits_23 : decode b_C_fits 23 = .ok (.aaload, 1) := by decide +kernel
theorem d_C_fits_24 : decode b_C_fits 24 = .ok (.invokevirtual 140, 3) := by decide +kernel
theorem d_C_fits_27 : decode b_C_fits 27 = .ok (.ifCond .eq 7, 3) := by decide +kernel
theorem d_C_fits_30 : decode b_C_fits 30 = .ok (.iconst 1, 1) := by decide +kernel
theorem d_C_fits_31 : decode b_C_fits 31 = .ok (.goto 4, 3) := by decide +kernel
theorem d_C_fits_34 : decode b_C_fits 34 = .ok (.iconst 0, 1) := by decide +kernel
theorem d_C_fits_35 : decode b_C_fits 35 = .ok (.ireturn, 1) := by decide +kernel
theorem d_C_complaints_0 : decode b_C_complaints 0 = .ok (.iconst 0, 1) := by decide +kernel
theorem d_C_complaints_1 : decode b_C_complaints 1 = .ok (.istore_n 1, 1) := by decide +kernel
theorem d_C_complaints_2 : decode b_C_complaints 2 = .ok (.iconst 0, 1) := by decide +kernel
theorem d_C_complaints_3 : decode b_C_complaints 3 = .ok (.istore_n 2, 1) := by decide +kernel
theorem d_C_complaints_4 : decode b_C_complaints 4 = .ok (.iload_n 2, 1) := by decide +kernel
theorem d_C_complaints_5 : decode b_C_complaints 5 = .ok (.aload_n 0, 1) := by decide +kernel
theorem d_C_complaints_6 : decode b_C_complaints 6 = .ok (.getfield 58, 3) := by decide +kernel
theorem d_C_complaints_9 : decode b_C_complaints 9 = .ok (.if_icmp .ge 24, 3) := by decide +kernel
theorem d_C_complaints_12 : decode b_C_complaints 12 = .ok (.aload_n 0, 1) := by decide +kernel
theorem d_C_complaints_13 : decode b_C_complaints 13 = .ok (.getfield 31, 3) := by decide +kernel
theorem d_C_complaints_16 : decode b_C_complaints 16 = .ok (.iload_n 2, 1) := by decide +kernel
theorem d_C_complaints_17 : decode b_C_complaints 17 = .ok (.aaload, 1) := by decide +kernel
theorem d_C_complaints_18 : decode b_C_complaints 18 = .ok (.getfield 132, 3) := by decide +kernel
theorem d_C_complaints_21 : decode b_C_complaints 21 = .ok (.ifCond .eq 6, 3) := by decide +kernel
theorem d_C_complaints_24 : decode b_C_complaints 24 = .ok (.iinc 1 1, 3) := by decide +kernel
theorem d_C_complaints_27 : decode b_C_complaints 27 = .ok (.iinc 2 1, 3) := by decide +kernel
theorem d_C_complaints_30 : decode b_C_complaints 30 = .ok (.goto (-26), 3) := by decide +kernel
theorem d_C_complaints_33 : decode b_C_complaints 33 = .ok (.iload_n 1, 1) := by decide +kernel
theorem d_C_complaints_34 : decode b_C_complaints 34 = .ok (.ireturn, 1) := by decide +kernel
theorem d_C_opened_0 : decode b_C_opened 0 = .ok (.iconst 0, 1) := by decide +kernel
theorem d_C_opened_1 : decode b_C_opened 1 = .ok (.istore_n 1, 1) := by decide +kernel
theorem d_C_opened_2 : decode b_C_opened 2 = .ok (.iconst 0, 1) := by decide +kernel
theorem d_C_opened_3 : decode b_C_opened 3 = .ok (.istore_n 2, 1) := by decide +kernel
theorem d_C_opened_4 : decode b_C_opened 4 = .ok (.iload_n 2, 1) := by decide +kernel
theorem d_C_opened_5 : decode b_C_opened 5 = .ok (.aload_n 0, 1) := by decide +kernel
theorem d_C_opened_6 : decode b_C_opened 6 = .ok (.getfield 58, 3) := by decide +kernel
theorem d_C_opened_9 : decode b_C_opened 9 = .ok (.if_icmp .ge 24, 3) := by decide +kernel
theorem d_C_opened_12 : decode b_C_opened 12 = .ok (.aload_n 0, 1) := by decide +kernel
theorem d_C_opened_13 : decode b_C_opened 13 = .ok (.getfield 31, 3) := by decide +kernel
theorem d_C_opened_16 : decode b_C_opened 16 = .ok (.iload_n 2, 1) := by decide +kernel
theorem d_C_opened_17 : decode b_C_opened 17 = .ok (.aaload, 1) := by decide +kernel
theorem d_C_opened_18 : decode b_C_opened 18 = .ok (.getfield 165, 3) := by decide +kernel
theorem d_C_opened_21 : decode b_C_opened 21 = .ok (.ifCond .eq 6, 3) := by decide +kernel
theorem d_C_opened_24 : decode b_C_opened 24 = .ok (.iinc 1 1, 3) := by decide +kernel
theorem d_C_opened_27 : decode b_C_opened 27 = .ok (.iinc 2 1, 3) := by decide +kernel
theorem d_C_opened_30 : decode b_C_opened 30 = .ok (.goto (-26), 3) := by decide +kernel
theorem d_C_opened_33 : decode b_C_opened 33 = .ok (.iload_n 1, 1) := by decide +kernel
theorem d_C_opened_34 : decode b_C_opened 34 = .ok (.ireturn, 1) := by decide +kernel
theorem d_C_demandStage_0 : decode b_C_demandStage 0 = .ok (.aload_n 0, 1) := by decide +kernel
theorem d_C_demandStage_1 : decode b_C_demandStage 1 = .ok (.getfield 80, 3) := by decide +kernel
theorem d_C_demandStage_4 : decode b_C_demandStage 4 = .ok (.iload_n 1, 1) := by decide +kernel
theorem d_C_demandStage_5 : decode b_C_demandStage 5 = .ok (.if_icmp .eq 13, 3) := by decide +kernel
theorem d_C_demandStage_8 : decode b_C_demandStage 8 = .ok (.new 113, 3) := by decide +kernel
theorem d_C_demandStage_11 : decode b_C_demandStage 11 = .ok (.dup, 1) := by decide +kernel
theorem d_C_demandStage_12 : decode b_C_demandStage 12 = .ok (.ldc 127, 2) := by decide +kernel
theorem d_C_demandStage_14 : decode b_C_demandStage 14 = .ok (.invokespecial 117, 3) := by decide +kernel
theorem d_C_demandStage_17 : decode b_C_demandStage 17 = .ok (.athrow, 1) := by decide +kernel
theorem d_C_demandStage_18 : decode b_C_demandStage 18 = .ok (.return_, 1) := by decide +kernel
theorem d_C_demandParticipant_0 : decode b_C_demandParticipant 0 = .ok (.aload_n 0, 1) := by decide +kernel
theorem d_C_demandParticipant_1 : decode b_C_demandParticipant 1 = .ok (.iload_n 1, 1) := by decide +kernel
theorem d_C_demandParticipant_2 : decode b_C_demandParticipant 2 = .ok (.invokevirtual 193, 3) := by decide +kernel
theorem d_C_demandParticipant_5 : decode b_C_demandParticipant 5 = .ok (.ifCond .ne 13, 3) := by decide +kernel
theorem d_C_demandParticipant_8 : decode b_C_demandParticipant 8 = .ok (.new 51, 3) := by decide +kernel
theorem d_C_demandParticipant_11 : decode b_C_demandParticipant 11 = .ok (.dup, 1) := by decide +kernel
theorem d_C_demandParticipant_12 : decode b_C_demandParticipant 12 = .ok (.ldc 196, 2) := by decide +kernel
theorem d_C_demandParticipant_14 : decode b_C_demandParticipant 14 = .ok (.invokespecial 55, 3) := by decide +kernel
theorem d_C_demandParticipant_17 : decode b_C_demandParticipant 17 = .ok (.athrow, 1) := by decide +kernel
theorem d_C_demandParticipant_18 : decode b_C_demandParticipant 18 = .ok (.return_, 1) := by decide +kernel
theorem d_C_demandCoefficient_0 : decode b_C_demandCoefficient 0 = .ok (.aload_n 0, 1) := by decide +kernel
theorem d_C_demandCoefficient_1 : decode b_C_demandCoefficient 1 = .ok (.iload_n 1, 1) := by decide +kernel
theorem d_C_demandCoefficient_2 : decode b_C_demandCoefficient 2 = .ok (.invokevirtual 189, 3) := by decide +kernel
theorem d_C_demandCoefficient_5 : decode b_C_demandCoefficient 5 = .ok (.ifCond .ne 13, 3) := by decide +kernel
theorem d_C_demandCoefficient_8 : decode b_C_demandCoefficient 8 = .ok (.new 51, 3) := by decide +kernel
theorem d_C_demandCoefficient_11 : decode b_C_demandCoefficient 11 = .ok (.dup, 1) := by decide +kernel
theorem d_C_demandCoefficient_12 : decode b_C_demandCoefficient 12 = .ok (.ldc 198, 2) := by decide +kernel
theorem d_C_demandCoefficient_14 : decode b_C_demandCoefficient 14 = .ok (.invokespecial 55, 3) := by decide +kernel
theorem d_C_demandCoefficient_17 : decode b_C_demandCoefficient 17 = .ok (.athrow, 1) := by decide +kernel
theorem d_C_demandCoefficient_18 : decode b_C_demandCoefficient 18 = .ok (.return_, 1) := by decide +kernel
theorem d_C_isParticipant_0 : decode b_C_isParticipant 0 = .ok (.iload_n 1, 1) := by decide +kernel
theorem d_C_isParticipant_1 : decode b_C_isParticipant 1 = .ok (.iconst 1, 1) := by decide +kernel
theorem d_C_isParticipant_2 : decode b_C_isParticipant 2 = .ok (.if_icmp .lt 15, 3) := by decide +kernel
theorem d_C_isParticipant_5 : decode b_C_isParticipant 5 = .ok (.iload_n 1, 1) := by decide +kernel
theorem d_C_isParticipant_6 : decode b_C_isParticipant 6 = .ok (.aload_n 0, 1) := by decide +kernel
theorem d_C_isParticipant_7 : decode b_C_isParticipant 7 = .ok (.getfield 58, 3) := by decide +kernel
theorem d_C_isParticipant_10 : decode b_C_isParticipant 10 = .ok (.if_icmp .gt 7, 3) := by decide +kernel
theorem d_C_isParticipant_13 : decode b_C_isParticipant 13 = .ok (.iconst 1, 1) := by decide +kernel
theorem d_C_isParticipant_14 : decode b_C_isParticipant 14 = .ok (.goto 4, 3) := by decide +kernel
theorem d_C_isParticipant_17 : decode b_C_isParticipant 17 = .ok (.iconst 0, 1) := by decide +kernel
theorem d_C_isParticipant_18 : decode b_C_isParticipant 18 = .ok (.ireturn, 1) := by decide +kernel
theorem d_C_isCoefficient_0 : decode b_C_isCoefficient 0 = .ok (.iload_n 1, 1) := by decide +kernel
theorem d_C_isCoefficient_1 : decode b_C_isCoefficient 1 = .ok (.ifCond .lt 15, 3) := by decide +kernel
theorem d_C_isCoefficient_4 : decode b_C_isCoefficient 4 = .ok (.iload_n 1, 1) := by decide +kernel
theorem d_C_isCoefficient_5 : decode b_C_isCoefficient 5 = .ok (.aload_n 0, 1) := by decide +kernel
theorem d_C_isCoefficient_6 : decode b_C_isCoefficient 6 = .ok (.getfield 61, 3) := by decide +kernel
theorem d_C_isCoefficient_9 : decode b_C_isCoefficient 9 = .ok (.if_icmp .ge 7, 3) := by decide +kernel
theorem d_C_isCoefficient_12 : decode b_C_isCoefficient 12 = .ok (.iconst 1, 1) := by decide +kernel
theorem d_C_isCoefficient_13 : decode b_C_isCoefficient 13 = .ok (.goto 4, 3) := by decide +kernel
theorem d_C_isCoefficient_16 : decode b_C_isCoefficient 16 = .ok (.iconst 0, 1) := by decide +kernel
theorem d_C_isCoefficient_17 : decode b_C_isCoefficient 17 = .ok (.ireturn, 1) := by decide +kernel
theorem d_C_isDealt_0 : decode b_C_isDealt 0 = .ok (.aload_n 0, 1) := by decide +kernel
theorem d_C_isDealt_1 : decode b_C_isDealt 1 = .ok (.getfield 80, 3) := by decide +kernel
theorem d_C_isDealt_4 : decode b_C_isDealt 4 = .ok (.iconst 2, 1) := by decide +kernel
theorem d_C_isDealt_5 : decode b_C_isDealt 5 = .ok (.if_icmp .lt 7, 3) := by decide +kernel
theorem d_C_isDealt_8 : decode b_C_isDealt 8 = .ok (.iconst 1, 1) := by decide +kernel
theorem d_C_isDealt_9 : decode b_C_isDealt 9 = .ok (.goto 4, 3) := by decide +kernel
theorem d_C_isDealt_12 : decode b_C_isDealt 12 = .ok (.iconst 0, 1) := by decide +kernel
theorem d_C_isDealt_13 : decode b_C_isDealt 13 = .ok (.ireturn, 1) := by decide +kernel
theorem d_C_blindNumber_0 : decode b_C_blindNumber 0 = .ok (.aload_n 0, 1) := by decide +kernel
theorem d_C_blindNumber_1 : decode b_C_blindNumber 1 = .ok (.getfield 64, 3) := by decide +kernel
theorem d_C_blindNumber_4 : decode b_C_blindNumber 4 = .ok (.ifCond .eq 14, 3) := by decide +kernel
theorem d_C_blindNumber_7 : decode b_C_blindNumber 7 = .ok (.aload_n 0, 1) := by decide +kernel
theorem d_C_blindNumber_8 : decode b_C_blindNumber 8 = .ok (.getfield 13, 3) := by decide +kernel
theorem d_C_blindNumber_11 : decode b_C_blindNumber 11 = .ok (.iload_n 1, 1) := by decide +kernel
theorem d_C_blindNumber_12 : decode b_C_blindNumber 12 = .ok (.invokevirtual 89, 3) := by decide +kernel
theorem d_C_blindNumber_15 : decode b_C_blindNumber 15 = .ok (.goto 4, 3) := by decide +kernel
theorem d_C_blindNumber_18 : decode b_C_blindNumber 18 = .ok (.iconst 0, 1) := by decide +kernel
theorem d_C_blindNumber_19 : decode b_C_blindNumber 19 = .ok (.ireturn, 1) := by decide +kernel
theorem d_C_publishCommitments_0 : decode b_C_publishCommitments 0 = .ok (.iconst 0, 1) := by decide +kernel
theorem d_C_publishCommitments_1 : decode b_C_publishCommitments 1 = .ok (.istore_n 1, 1) := by decide +kernel
theorem d_C_publishCommitments_2 : decode b_C_publishCommitments 2 = .ok (.iload_n 1, 1) := by decide +kernel
theorem d_C_publishCommitments_3 : decode b_C_publishCommitments 3 = .ok (.aload_n 0, 1) := by decide +kernel
theorem d_C_publishCommitments_4 : decode b_C_publishCommitments 4 = .ok (.getfield 61, 3) := by decide +kernel
theorem d_C_publishCommitments_7 : decode b_C_publishCommitments 7 = .ok (.if_icmp .ge 34, 3) := by decide +kernel
theorem d_C_publishCommitments_10 : decode b_C_publishCommitments 10 = .ok (.aload_n 0, 1) := by decide +kernel
theorem d_C_publishCommitments_11 : decode b_C_publishCommitments 11 = .ok (.getfield 26, 3) := by decide +kernel
theorem d_C_publishCommitments_14 : decode b_C_publishCommitments 14 = .ok (.iload_n 1, 1) := by decide +kernel
theorem d_C_publishCommitments_15 : decode b_C_publishCommitments 15 = .ok (.aload_n 0, 1) := by decide +kernel
theorem d_C_publishCommitments_16 : decode b_C_publishCommitments 16 = .ok (.getfield 13, 3) := by decide +kernel
theorem d_C_publishCommitments_19 : decode b_C_publishCommitments 19 = .ok (.aload_n 0, 1) := by decide +kernel
theorem d_C_publishCommitments_20 : decode b_C_publishCommitments 20 = .ok (.getfield 19, 3) := by decide +kernel
theorem d_C_publishCommitments_23 : decode b_C_publishCommitments 23 = .ok (.iload_n 1, 1) := by decide +kernel
theorem d_C_publishCommitments_24 : decode b_C_publishCommitments 24 = .ok (.iaload, 1) := by decide +kernel
theorem d_C_publishCommitments_25 : decode b_C_publishCommitments 25 = .ok (.aload_n 0, 1) := by decide +kernel
theorem d_C_publishCommitments_26 : decode b_C_publishCommitments 26 = .ok (.getfield 23, 3) := by decide +kernel
theorem d_C_publishCommitments_29 : decode b_C_publishCommitments 29 = .ok (.iload_n 1, 1) := by decide +kernel
theorem d_C_publishCommitments_30 : decode b_C_publishCommitments 30 = .ok (.iaload, 1) := by decide +kernel
theorem d_C_publishCommitments_31 : decode b_C_publishCommitments 31 = .ok (.invokevirtual 200, 3) := by decide +kernel
theorem d_C_publishCommitments_34 : decode b_C_publishCommitments 34 = .ok (.iastore, 1) := by decide +kernel
theorem d_C_publishCommitments_35 : decode b_C_publishCommitments 35 = .ok (.iinc 1 1, 3) := by decide +kernel
theorem d_C_publishCommitments_38 : decode b_C_publishCommitments 38 = .ok (.goto (-36), 3) := by decide +kernel
theorem d_C_publishCommitments_41 : decode b_C_publishCommitments 41 = .ok (.return_, 1) := by decide +kernel
theorem d_C_sendShares_0 : decode b_C_sendShares 0 = .ok (.iconst 1, 1) := by decide +kernel
theorem d_C_sendShares_1 : decode b_C_sendShares 1 = .ok (.istore_n 1, 1) := by decide +kernel
theorem d_C_sendShares_2 : decode b_C_sendShares 2 = .ok (.iload_n 1, 1) := by decide +kernel
theorem d_C_sendShares_3 : decode b_C_sendShares 3 = .ok (.aload_n 0, 1) := by decide +kernel
theorem d_C_sendShares_4 : decode b_C_sendShares 4 = .ok (.getfield 58, 3) := by decide +kernel
theorem d_C_sendShares_7 : decode b_C_sendShares 7 = .ok (.if_icmp .gt 38, 3) := by decide +kernel
theorem d_C_sendShares_10 : decode b_C_sendShares 10 = .ok (.aload_n 0, 1) := by decide +kernel
theorem d_C_sendShares_11 : decode b_C_sendShares 11 = .ok (.getfield 31, 3) := by decide +kernel
theorem d_C_sendShares_14 : decode b_C_sendShares 14 = .ok (.iload_n 1, 1) := by decide +kernel
theorem d_C_sendShares_15 : decode b_C_sendShares 15 = .ok (.iconst 1, 1) := by decide +kernel
theorem d_C_sendShares_16 : decode b_C_sendShares 16 = .ok (.isub, 1) := by decide +kernel
theorem d_C_sendShares_17 : decode b_C_sendShares 17 = .ok (.aaload, 1) := by decide +kernel
theorem d_C_sendShares_18 : decode b_C_sendShares 18 = .ok (.aload_n 0, 1) := by decide +kernel
theorem d_C_sendShares_19 : decode b_C_sendShares 19 = .ok (.iload_n 1, 1) := by decide +kernel
theorem d_C_sendShares_20 : decode b_C_sendShares 20 = .ok (.aload_n 0, 1) := by decide +kernel
theorem d_C_sendShares_21 : decode b_C_sendShares 21 = .ok (.getfield 19, 3) := by decide +kernel
theorem d_C_sendShares_24 : decode b_C_sendShares 24 = .ok (.invokevirtual 203, 3) := by decide +kernel
theorem d_C_sendShares_27 : decode b_C_sendShares 27 = .ok (.aload_n 0, 1) := by decide +kernel
theorem d_C_sendShares_28 : decode b_C_sendShares 28 = .ok (.iload_n 1, 1) := by decide +kernel
theorem d_C_sendShares_29 : decode b_C_sendShares 29 = .ok (.aload_n 0, 1) := by decide +kernel
theorem d_C_sendShares_30 : decode b_C_sendShares 30 = .ok (.getfield 23, 3) := by decide +kernel
theorem d_C_sendShares_33 : decode b_C_sendShares 33 = .ok (.invokevirtual 203, 3) := by decide +kernel
theorem d_C_sendShares_36 : decode b_C_sendShares 36 = .ok (.invokevirtual 121, 3) := by decide +kernel
theorem d_C_sendShares_39 : decode b_C_sendShares 39 = .ok (.iinc 1 1, 3) := by decide +kernel
theorem d_C_sendShares_42 : decode b_C_sendShares 42 = .ok (.goto (-40), 3) := by decide +kernel
theorem d_C_sendShares_45 : decode b_C_sendShares 45 = .ok (.return_, 1) := by decide +kernel
theorem d_C_valueAt_0 : decode b_C_valueAt 0 = .ok (.iconst 0, 1) := by decide +kernel
theorem d_C_valueAt_1 : decode b_C_valueAt 1 = .ok (.istore_n 3, 1) := by decide +kernel
theorem d_C_valueAt_2 : decode b_C_valueAt 2 = .ok (.aload_n 0, 1) := by decide +kernel
theorem d_C_valueAt_3 : decode b_C_valueAt 3 = .ok (.getfield 61, 3) := by decide +kernel
theorem d_C_valueAt_6 : decode b_C_valueAt 6 = .ok (.iconst 1, 1) := by decide +kernel
theorem d_C_valueAt_7 : decode b_C_valueAt 7 = .ok (.isub, 1) := by decide +kernel
theorem d_C_valueAt_8 : decode b_C_valueAt 8 = .ok (.istore 4, 2) := by decide +kernel
theorem d_C_valueAt_10 : decode b_C_valueAt 10 = .ok (.iload 4, 2) := by decide +kernel
theorem d_C_valueAt_12 : decode b_C_valueAt 12 = .ok (.ifCond .lt 30, 3) := by decide +kernel
theorem d_C_valueAt_15 : decode b_C_valueAt 15 = .ok (.aload_n 0, 1) := by decide +kernel
theorem d_C_valueAt_16 : decode b_C_valueAt 16 = .ok (.getfield 13, 3) := by decide +kernel
theorem d_C_valueAt_19 : decode b_C_valueAt 19 = .ok (.aload_n 0, 1) := by decide +kernel
theorem d_C_valueAt_20 : decode b_C_valueAt 20 = .ok (.getfield 13, 3) := by decide +kernel
theorem d_C_valueAt_23 : decode b_C_valueAt 23 = .ok (.iload_n 3, 1) := by decide +kernel
theorem d_C_valueAt_24 : decode b_C_valueAt 24 = .ok (.iload_n 1, 1) := by decide +kernel
theorem d_C_valueAt_25 : decode b_C_valueAt 25 = .ok (.invokevirtual 175, 3) := by decide +kernel
theorem d_C_valueAt_28 : decode b_C_valueAt 28 = .ok (.aload_n 2, 1) := by decide +kernel
theorem d_C_valueAt_29 : decode b_C_valueAt 29 = .ok (.iload 4, 2) := by decide +kernel
theorem d_C_valueAt_31 : decode b_C_valueAt 31 = .ok (.iaload, 1) := by decide +kernel
theorem d_C_valueAt_32 : decode b_C_valueAt 32 = .ok (.invokevirtual 178, 3) := by decide +kernel
theorem d_C_valueAt_35 : decode b_C_valueAt 35 = .ok (.istore_n 3, 1) := by decide +kernel
theorem d_C_valueAt_36 : decode b_C_valueAt 36 = .ok (.iinc 4 (-1), 3) := by decide +kernel
theorem d_C_valueAt_39 : decode b_C_valueAt 39 = .ok (.goto (-29), 3) := by decide +kernel
theorem d_C_valueAt_42 : decode b_C_valueAt 42 = .ok (.iload_n 3, 1) := by decide +kernel
theorem d_C_valueAt_43 : decode b_C_valueAt 43 = .ok (.ireturn, 1) := by decide +kernel
theorem d_C_raiseComplaints_0 : decode b_C_raiseComplaints 0 = .ok (.iconst 0, 1) := by decide +kernel
theorem d_C_raiseComplaints_1 : decode b_C_raiseComplaints 1 = .ok (.istore_n 1, 1) := by decide +kernel
theorem d_C_raiseComplaints_2 : decode b_C_raiseComplaints 2 = .ok (.iload_n 1, 1) := by decide +kernel
theorem d_C_raiseComplaints_3 : decode b_C_raiseComplaints 3 = .ok (.aload_n 0, 1) := by decide +kernel
theorem d_C_raiseComplaints_4 : decode b_C_raiseComplaints 4 = .ok (.getfield 58, 3) := by decide +kernel
theorem d_C_raiseComplaints_7 : decode b_C_raiseComplaints 7 = .ok (.if_icmp .ge 40, 3) := by decide +kernel
theorem d_C_raiseComplaints_10 : decode b_C_raiseComplaints 10 = .ok (.aload_n 0, 1) := by decide +kernel
theorem d_C_raiseComplaints_11 : decode b_C_raiseComplaints 11 = .ok (.getfield 31, 3) := by decide +kernel
theorem d_C_raiseComplaints_14 : decode b_C_raiseComplaints 14 = .ok (.iload_n 1, 1) := by decide +kernel
theorem d_C_raiseComplaints_15 : decode b_C_raiseComplaints 15 = .ok (.aaload, 1) := by decide +kernel
theorem d_C_raiseComplaints_16 : decode b_C_raiseComplaints 16 = .ok (.astore_n 2, 1) := by decide +kernel
theorem d_C_raiseComplaints_17 : decode b_C_raiseComplaints 17 = .ok (.aload_n 2, 1) := by decide +kernel
theorem d_C_raiseComplaints_18 : decode b_C_raiseComplaints 18 = .ok (.aload_n 2, 1) := by decide +kernel
theorem d_C_raiseComplaints_19 : decode b_C_raiseComplaints 19 = .ok (.getfield 129, 3) := by decide +kernel
theorem d_C_raiseComplaints_22 : decode b_C_raiseComplaints 22 = .ok (.ifCond .ne 15, 3) := by decide +kernel
theorem d_C_raiseComplaints_25 : decode b_C_raiseComplaints 25 = .ok (.aload_n 0, 1) := by decide +kernel
theorem d_C_raiseComplaints_26 : decode b_C_raiseComplaints 26 = .ok (.aload_n 2, 1) := by decide +kernel
theorem d_C_raiseComplaints_27 : decode b_C_raiseComplaints 27 = .ok (.invokevirtual 140, 3) := by decide +kernel
theorem d_C_raiseComplaints_30 : decode b_C_raiseComplaints 30 = .ok (.ifCond .ne 7, 3) := by decide +kernel
theorem d_C_raiseComplaints_33 : decode b_C_raiseComplaints 33 = .ok (.iconst 1, 1) := by decide +kernel
theorem d_C_raiseComplaints_34 : decode b_C_raiseComplaints 34 = .ok (.goto 4, 3) := by decide +kernel
theorem d_C_raiseComplaints_37 : decode b_C_raiseComplaints 37 = .ok (.iconst 0, 1) := by decide +kernel
theorem d_C_raiseComplaints_38 : decode b_C_raiseComplaints 38 = .ok (.putfield 132, 3) := by decide +kernel
theorem d_C_raiseComplaints_41 : decode b_C_raiseComplaints 41 = .ok (.iinc 1 1, 3) := by decide +kernel
theorem d_C_raiseComplaints_44 : decode b_C_raiseComplaints 44 = .ok (.goto (-42), 3) := by decide +kernel
theorem d_C_raiseComplaints_47 : decode b_C_raiseComplaints 47 = .ok (.return_, 1) := by decide +kernel
theorem d_C_isEveryComplaintAnswered_0 : decode b_C_isEveryComplaintAnswered 0 = .ok (.iconst 0, 1) := by decide +kernel
theorem d_C_isEveryComplaintAnswered_1 : decode b_C_isEveryComplaintAnswered 1 = .ok (.istore_n 1, 1) := by decide +kernel
theorem d_C_isEveryComplaintAnswered_2 : decode b_C_isEveryComplaintAnswered 2 = .ok (.iload_n 1, 1) := by decide +kernel
theorem d_C_isEveryComplaintAnswered_3 : decode b_C_isEveryComplaintAnswered 3 = .ok (.aload_n 0, 1) := by decide +kernel
theorem d_C_isEveryComplaintAnswered_4 : decode b_C_isEveryComplaintAnswered 4 = .ok (.getfield 58, 3) := by decide +kernel
theorem d_C_isEveryComplaintAnswered_7 : decode b_C_isEveryComplaintAnswered 7 = .ok (.if_icmp .ge 35, 3) := by decide +kernel
theorem d_C_isEveryComplaintAnswered_10 : decode b_C_isEveryComplaintAnswered 10 = .ok (.aload_n 0, 1) := by decide +kernel
theorem d_C_isEveryComplaintAnswered_11 : decode b_C_isEveryComplaintAnswered 11 = .ok (.getfield 31, 3) := by decide +kernel
theorem d_C_isEveryComplaintAnswered_14 : decode b_C_isEveryComplaintAnswered 14 = .ok (.iload_n 1, 1) := by decide +kernel
theorem d_C_isEveryComplaintAnswered_15 : decode b_C_isEveryComplaintAnswered 15 = .ok (.aaload, 1) := by decide +kernel
theorem d_C_isEveryComplaintAnswered_16 : decode b_C_isEveryComplaintAnswered 16 = .ok (.getfield 132, 3) := by decide +kernel
theorem d_C_isEveryComplaintAnswered_19 : decode b_C_isEveryComplaintAnswered 19 = .ok (.ifCond .eq 17, 3) := by decide +kernel
theorem d_C_isEveryComplaintAnswered_22 : decode b_C_isEveryComplaintAnswered 22 = .ok (.aload_n 0, 1) := by decide +kernel
theorem d_C_isEveryComplaintAnswered_23 : decode b_C_isEveryComplaintAnswered 23 = .ok (.getfield 31, 3) := by decide +kernel
theorem d_C_isEveryComplaintAnswered_26 : decode b_C_isEveryComplaintAnswered 26 = .ok (.iload_n 1, 1) := by decide +kernel
theorem d_C_isEveryComplaintAnswered_27 : decode b_C_isEveryComplaintAnswered 27 = .ok (.aaload, 1) := by decide +kernel
theorem d_C_isEveryComplaintAnswered_28 : decode b_C_isEveryComplaintAnswered 28 = .ok (.getfield 144, 3) := by decide +kernel
theorem d_C_isEveryComplaintAnswered_31 : decode b_C_isEveryComplaintAnswered 31 = .ok (.ifCond .ne 5, 3) := by decide +kernel
theorem d_C_isEveryComplaintAnswered_34 : decode b_C_isEveryComplaintAnswered 34 = .ok (.iconst 0, 1) := by decide +kernel
theorem d_C_isEveryComplaintAnswered_35 : decode b_C_isEveryComplaintAnswered 35 = .ok (.ireturn, 1) := by decide +kernel
theorem d_C_isEveryComplaintAnswered_36 : decode b_C_isEveryComplaintAnswered 36 = .ok (.iinc 1 1, 3) := by decide +kernel
theorem d_C_isEveryComplaintAnswered_39 : decode b_C_isEveryComplaintAnswered 39 = .ok (.goto (-37), 3) := by decide +kernel
theorem d_C_isEveryComplaintAnswered_42 : decode b_C_isEveryComplaintAnswered 42 = .ok (.iconst 1, 1) := by decide +kernel
theorem d_C_isEveryComplaintAnswered_43 : decode b_C_isEveryComplaintAnswered 43 = .ok (.ireturn, 1) := by decide +kernel
theorem d_C_isShareRight_0 : decode b_C_isShareRight 0 = .ok (.aload_n 0, 1) := by decide +kernel
theorem d_C_isShareRight_1 : decode b_C_isShareRight 1 = .ok (.aload_n 1, 1) := by decide +kernel
theorem d_C_isShareRight_2 : decode b_C_isShareRight 2 = .ok (.aload_n 1, 1) := by decide +kernel
theorem d_C_isShareRight_3 : decode b_C_isShareRight 3 = .ok (.getfield 147, 3) := by decide +kernel
theorem d_C_isShareRight_6 : decode b_C_isShareRight 6 = .ok (.aload_n 1, 1) := by decide +kernel
theorem d_C_isShareRight_7 : decode b_C_isShareRight 7 = .ok (.getfield 150, 3) := by decide +kernel
theorem d_C_isShareRight_10 : decode b_C_isShareRight 10 = .ok (.invokevirtual 207, 3) := by decide +kernel
theorem d_C_isShareRight_13 : decode b_C_isShareRight 13 = .ok (.ireturn, 1) := by decide +kernel
theorem d_C_isPairRight_0 : decode b_C_isPairRight 0 = .ok (.aload_n 0, 1) := by decide +kernel
theorem d_C_isPairRight_1 : decode b_C_isPairRight 1 = .ok (.getfield 13, 3) := by decide +kernel
theorem d_C_isPairRight_4 : decode b_C_isPairRight 4 = .ok (.iload_n 2, 1) := by decide +kernel
theorem d_C_isPairRight_5 : decode b_C_isPairRight 5 = .ok (.iload_n 3, 1) := by decide +kernel
theorem d_C_isPairRight_6 : decode b_C_isPairRight 6 = .ok (.invokevirtual 200, 3) := by decide +kernel
theorem d_C_isPairRight_9 : decode b_C_isPairRight 9 = .ok (.aload_n 0, 1) := by decide +kernel
theorem d_C_isPairRight_10 : decode b_C_isPairRight 10 = .ok (.aload_n 1, 1) := by decide +kernel
theorem d_C_isPairRight_11 : decode b_C_isPairRight 11 = .ok (.getfield 210, 3) := by decide +kernel
theorem d_C_isPairRight_14 : decode b_C_isPairRight 14 = .ok (.invokevirtual 212, 3) := by decide +kernel
theorem d_C_isPairRight_17 : decode b_C_isPairRight 17 = .ok (.if_icmp .ne 7, 3) := by decide +kernel
theorem d_C_isPairRight_20 : decode b_C_isPairRight 20 = .ok (.iconst 1, 1) := by decide +kernel
theorem d_C_isPairRight_21 : decode b_C_isPairRight 21 = .ok (.goto 4, 3) := by decide +kernel
theorem d_C_isPairRight_24 : decode b_C_isPairRight 24 = .ok (.iconst 0, 1) := by decide +kernel
theorem d_C_isPairRight_25 : decode b_C_isPairRight 25 = .ok (.ireturn, 1) := by decide +kernel
theorem d_C_publishedAt_0 : decode b_C_publishedAt 0 = .ok (.iconst 1, 1) := by decide +kernel
theorem d_C_publishedAt_1 : decode b_C_publishedAt 1 = .ok (.istore_n 2, 1) := by decide +kernel
theorem d_C_publishedAt_2 : decode b_C_publishedAt 2 = .ok (.aload_n 0, 1) := by decide +kernel
theorem d_C_publishedAt_3 : decode b_C_publishedAt 3 = .ok (.getfield 61, 3) := by decide +kernel
theorem d_C_publishedAt_6 : decode b_C_publishedAt 6 = .ok (.iconst 1, 1) := by decide +kernel
theorem d_C_publishedAt_7 : decode b_C_publishedAt 7 = .ok (.isub, 1) := by decide +kernel
theorem d_C_publishedAt_8 : decode b_C_publishedAt 8 = .ok (.istore_n 3, 1) := by decide +kernel
theorem d_C_publishedAt_9 : decode b_C_publishedAt 9 = .ok (.iload_n 3, 1) := by decide +kernel
theorem d_C_publishedAt_10 : decode b_C_publishedAt 10 = .ok (.ifCond .lt 32, 3) := by decide +kernel
theorem d_C_publishedAt_13 : decode b_C_publishedAt 13 = .ok (.aload_n 0, 1) := by decide +kernel
theorem d_C_publishedAt_14 : decode b_C_publishedAt 14 = .ok (.getfield 13, 3) := by decide +kernel
theorem d_C_publishedAt_17 : decode b_C_publishedAt 17 = .ok (.aload_n 0, 1) := by decide +kernel
theorem d_C_publishedAt_18 : decode b_C_publishedAt 18 = .ok (.getfield 13, 3) := by decide +kernel
theorem d_C_publishedAt_21 : decode b_C_publishedAt 21 = .ok (.iload_n 2, 1) := by decide +kernel
theorem d_C_publishedAt_22 : decode b_C_publishedAt 22 = .ok (.iload_n 1, 1) := by decide +kernel
theorem d_C_publishedAt_23 : decode b_C_publishedAt 23 = .ok (.invokevirtual 215, 3) := by decide +kernel
theorem d_C_publishedAt_26 : decode b_C_publishedAt 26 = .ok (.aload_n 0, 1) := by decide +kernel
theorem d_C_publishedAt_27 : decode b_C_publishedAt 27 = .ok (.getfield 26, 3) := by decide +kernel
theorem d_C_publishedAt_30 : decode b_C_publishedAt 30 = .ok (.iload_n 3, 1) := by decide +kernel
theorem d_C_publishedAt_31 : decode b_C_publishedAt 31 = .ok (.iaload, 1) := by decide +kernel
theorem d_C_publishedAt_32 : decode b_C_publishedAt 32 = .ok (.invokevirtual 218, 3) := by decide +kernel
theorem d_C_publishedAt_35 : decode b_C_publishedAt 35 = .ok (.istore_n 2, 1) := by decide +kernel
theorem d_C_publishedAt_36 : decode b_C_publishedAt 36 = .ok (.iinc 3 (-1), 3) := by decide +kernel
theorem d_C_publishedAt_39 : decode b_C_publishedAt 39 = .ok (.goto (-30), 3) := by decide +kernel
theorem d_C_publishedAt_42 : decode b_C_publishedAt 42 = .ok (.iload_n 2, 1) := by decide +kernel
theorem d_C_publishedAt_43 : decode b_C_publishedAt 43 = .ok (.ireturn, 1) := by decide +kernel
theorem d_C_layOpen_0 : decode b_C_layOpen 0 = .ok (.aload_n 0, 1) := by decide +kernel
theorem d_C_layOpen_1 : decode b_C_layOpen 1 = .ok (.aload_n 1, 1) := by decide +kernel
theorem d_C_layOpen_2 : decode b_C_layOpen 2 = .ok (.iload_n 2, 1) := by decide +kernel
theorem d_C_layOpen_3 : decode b_C_layOpen 3 = .ok (.iload_n 3, 1) := by decide +kernel
theorem d_C_layOpen_4 : decode b_C_layOpen 4 = .ok (.invokevirtual 207, 3) := by decide +kernel
theorem d_C_layOpen_7 : decode b_C_layOpen 7 = .ok (.ifCond .ne 5, 3) := by decide +kernel
theorem d_C_layOpen_10 : decode b_C_layOpen 10 = .ok (.iconst 0, 1) := by decide +kernel
theorem d_C_layOpen_11 : decode b_C_layOpen 11 = .ok (.ireturn, 1) := by decide +kernel
theorem d_C_layOpen_12 : decode b_C_layOpen 12 = .ok (.aload_n 1, 1) := by decide +kernel
theorem d_C_layOpen_13 : decode b_C_layOpen 13 = .ok (.getfield 165, 3) := by decide +kernel
theorem d_C_layOpen_16 : decode b_C_layOpen 16 = .ok (.ifCond .ne 12, 3) := by decide +kernel
theorem d_C_layOpen_19 : decode b_C_layOpen 19 = .ok (.aload_n 1, 1) := by decide +kernel
theorem d_C_layOpen_20 : decode b_C_layOpen 20 = .ok (.iload_n 2, 1) := by decide +kernel
theorem d_C_layOpen_21 : decode b_C_layOpen 21 = .ok (.iload_n 3, 1) := by decide +kernel
theorem d_C_layOpen_22 : decode b_C_layOpen 22 = .ok (.invokevirtual 221, 3) := by decide +kernel
theorem d_C_layOpen_25 : decode b_C_layOpen 25 = .ok (.goto 58, 3) := by decide +kernel
theorem d_C_layOpen_28 : decode b_C_layOpen 28 = .ok (.aload_n 0, 1) := by decide +kernel
theorem d_C_layOpen_29 : decode b_C_layOpen 29 = .ok (.getfield 77, 3) := by decide +kernel
theorem d_C_layOpen_32 : decode b_C_layOpen 32 = .ok (.ifCond .ne 51, 3) := by decide +kernel
theorem d_C_layOpen_35 : decode b_C_layOpen 35 = .ok (.iload_n 3, 1) := by decide +kernel
theorem d_C_layOpen_36 : decode b_C_layOpen 36 = .ok (.aload_n 1, 1) := by decide +kernel
theorem d_C_layOpen_37 : decode b_C_layOpen 37 = .ok (.getfield 224, 3) := by decide +kernel
theorem d_C_layOpen_40 : decode b_C_layOpen 40 = .ok (.if_icmp .eq 43, 3) := by decide +kernel
theorem d_C_layOpen_43 : decode b_C_layOpen 43 = .ok (.aload_n 0, 1) := by decide +kernel
theorem d_C_layOpen_44 : decode b_C_layOpen 44 = .ok (.iconst 1, 1) := by decide +kernel
theorem d_C_layOpen_45 : decode b_C_layOpen 45 = .ok (.putfield 77, 3) := by decide +kernel
theorem d_C_layOpen_48 : decode b_C_layOpen 48 = .ok (.aload_n 0, 1) := by decide +kernel
theorem d_C_layOpen_49 : decode b_C_layOpen 49 = .ok (.aload_n 0, 1) := by decide +kernel
theorem d_C_layOpen_50 : decode b_C_layOpen 50 = .ok (.getfield 13, 3) := by decide +kernel
theorem d_C_layOpen_53 : decode b_C_layOpen 53 = .ok (.aload_n 0, 1) := by decide +kernel
theorem d_C_layOpen_54 : decode b_C_layOpen 54 = .ok (.getfield 13, 3) := by decide +kernel
theorem d_C_layOpen_57 : decode b_C_layOpen 57 = .ok (.aload_n 1, 1) := by decide +kernel
theorem d_C_layOpen_58 : decode b_C_layOpen 58 = .ok (.getfield 168, 3) := by decide +kernel
theorem d_C_layOpen_61 : decode b_C_layOpen 61 = .ok (.iload_n 2, 1) := by decide +kernel
theorem d_C_layOpen_62 : decode b_C_layOpen 62 = .ok (.invokevirtual 227, 3) := by decide +kernel
theorem d_C_layOpen_65 : decode b_C_layOpen 65 = .ok (.aload_n 0, 1) := by decide +kernel
theorem d_C_layOpen_66 : decode b_C_layOpen 66 = .ok (.getfield 13, 3) := by decide +kernel
theorem d_C_layOpen_69 : decode b_C_layOpen 69 = .ok (.iload_n 3, 1) := by decide +kernel
theorem d_C_layOpen_70 : decode b_C_layOpen 70 = .ok (.aload_n 1, 1) := by decide +kernel
theorem d_C_layOpen_71 : decode b_C_layOpen 71 = .ok (.getfield 224, 3) := by decide +kernel
theorem d_C_layOpen_74 : decode b_C_layOpen 74 = .ok (.invokevirtual 227, 3) := by decide +kernel
theorem d_C_layOpen_77 : decode b_C_layOpen 77 = .ok (.invokevirtual 230, 3) := by decide +kernel
theorem d_C_layOpen_80 : decode b_C_layOpen 80 = .ok (.putfield 183, 3) := by decide +kernel
theorem d_C_layOpen_83 : decode b_C_layOpen 83 = .ok (.iconst 1, 1) := by decide +kernel
theorem d_C_layOpen_84 : decode b_C_layOpen 84 = .ok (.ireturn, 1) := by decide +kernel
theorem d_C_lastOfTheChosen_0 : decode b_C_lastOfTheChosen 0 = .ok (.aload_n 0, 1) := by decide +kernel
theorem d_C_lastOfTheChosen_1 : decode b_C_lastOfTheChosen 1 = .ok (.getfield 61, 3) := by decide +kernel
theorem d_C_lastOfTheChosen_4 : decode b_C_lastOfTheChosen 4 = .ok (.istore_n 1, 1) := by decide +kernel
theorem d_C_lastOfTheChosen_5 : decode b_C_lastOfTheChosen 5 = .ok (.iconst 0, 1) := by decide +kernel
theorem d_C_lastOfTheChosen_6 : decode b_C_lastOfTheChosen 6 = .ok (.istore_n 2, 1) := by decide +kernel
theorem d_C_lastOfTheChosen_7 : decode b_C_lastOfTheChosen 7 = .ok (.iload_n 2, 1) := by decide +kernel
theorem d_C_lastOfTheChosen_8 : decode b_C_lastOfTheChosen 8 = .ok (.aload_n 0, 1) := by decide +kernel
theorem d_C_lastOfTheChosen_9 : decode b_C_lastOfTheChosen 9 = .ok (.getfield 58, 3) := by decide +kernel
theorem d_C_lastOfTheChosen_12 : decode b_C_lastOfTheChosen 12 = .ok (.if_icmp .ge 28, 3) := by decide +kernel
theorem d_C_lastOfTheChosen_15 : decode b_C_lastOfTheChosen 15 = .ok (.iload_n 1, 1) := by decide +kernel
theorem d_C_lastOfTheChosen_16 : decode b_C_lastOfTheChosen 16 = .ok (.ifCond .le 24, 3) := by decide +kernel
theorem d_C_lastOfTheChosen_19 : decode b_C_lastOfTheChosen 19 = .ok (.aload_n 0, 1) := by decide +kernel
theorem d_C_lastOfTheChosen_20 : decode b_C_lastOfTheChosen 20 = .ok (.getfield 31, 3) := by decide +kernel
theorem d_C_lastOfTheChosen_23 : decode b_C_lastOfTheChosen 23 = .ok (.iload_n 2, 1) := by decide +kernel
theorem d_C_lastOfTheChosen_24 : decode b_C_lastOfTheChosen 24 = .ok (.aaload, 1) := by decide +kernel
theorem d_C_lastOfTheChosen_25 : decode b_C_lastOfTheChosen 25 = .ok (.getfield 165, 3) := by decide +kernel
theorem d_C_lastOfTheChosen_28 : decode b_C_lastOfTheChosen 28 = .ok (.ifCond .eq 6, 3) := by decide +kernel
theorem d_C_lastOfTheChosen_31 : decode b_C_lastOfTheChosen 31 = .ok (.iinc 1 (-1), 3) := by decide +kernel
theorem d_C_lastOfTheChosen_34 : decode b_C_lastOfTheChosen 34 = .ok (.iinc 2 1, 3) := by decide +kernel
theorem d_C_lastOfTheChosen_37 : decode b_C_lastOfTheChosen 37 = .ok (.goto (-30), 3) := by decide +kernel
theorem d_C_lastOfTheChosen_40 : decode b_C_lastOfTheChosen 40 = .ok (.iload_n 2, 1) := by decide +kernel
theorem d_C_lastOfTheChosen_41 : decode b_C_lastOfTheChosen 41 = .ok (.ireturn, 1) := by decide +kernel
theorem d_C_weightAtZero_0 : decode b_C_weightAtZero 0 = .ok (.iconst 1, 1) := by decide +kernel
theorem d_C_weightAtZero_1 : decode b_C_weightAtZero 1 = .ok (.istore_n 3, 1) := by decide +kernel
theorem d_C_weightAtZero_2 : decode b_C_weightAtZero 2 = .ok (.iconst 1, 1) := by decide +kernel
theorem d_C_weightAtZero_3 : decode b_C_weightAtZero 3 = .ok (.istore 4, 2) := by decide +kernel
theorem d_C_weightAtZero_5 : decode b_C_weightAtZero 5 = .ok (.iconst 1, 1) := by decide +kernel
theorem d_C_weightAtZero_6 : decode b_C_weightAtZero 6 = .ok (.istore 5, 2) := by decide +kernel
theorem d_C_weightAtZero_8 : decode b_C_weightAtZero 8 = .ok (.iload 5, 2) := by decide +kernel
theorem d_C_weightAtZero_10 : decode b_C_weightAtZero 10 = .ok (.iload_n 2, 1) := by decide +kernel
theorem d_C_weightAtZero_11 : decode b_C_weightAtZero 11 = .ok (.if_icmp .gt 62, 3) := by decide +kernel
theorem d_C_weightAtZero_14 : decode b_C_weightAtZero 14 = .ok (.iload 5, 2) := by decide +kernel
theorem d_C_weightAtZero_16 : decode b_C_weightAtZero 16 = .ok (.iload_n 1, 1) := by decide +kernel
theorem d_C_weightAtZero_17 : decode b_C_weightAtZero 17 = .ok (.if_icmp .eq 50, 3) := by decide +kernel
theorem d_C_weightAtZero_20 : decode b_C_weightAtZero 20 = .ok (.aload_n 0, 1) := by decide +kernel
theorem d_C_weightAtZero_21 : decode b_C_weightAtZero 21 = .ok (.getfield 31, 3) := by decide +kernel
theorem d_C_weightAtZero_24 : decode b_C_weightAtZero 24 = .ok (.iload 5, 2) := by decide +kernel
theorem d_C_weightAtZero_26 : decode b_C_weightAtZero 26 = .ok (.iconst 1, 1) := by decide +kernel
theorem d_C_weightAtZero_27 : decode b_C_weightAtZero 27 = .ok (.isub, 1) := by decide +kernel
theorem d_C_weightAtZero_28 : decode b_C_weightAtZero 28 = .ok (.aaload, 1) := by decide +kernel
theorem d_C_weightAtZero_29 : decode b_C_weightAtZero 29 = .ok (.getfield 165, 3) := by decide +kernel
theorem d_C_weightAtZero_32 : decode b_C_weightAtZero 32 = .ok (.ifCond .eq 35, 3) := by decide +kernel
theorem d_C_weightAtZero_35 : decode b_C_weightAtZero 35 = .ok (.aload_n 0, 1) := by decide +kernel
theorem d_C_weightAtZero_36 : decode b_C_weightAtZero 36 = .ok (.getfield 13, 3) := by decide +kernel
theorem d_C_weightAtZero_39 : decode b_C_weightAtZero 39 = .ok (.iload_n 3, 1) := by decide +kernel
theorem d_C_weightAtZero_40 : decode b_C_weightAtZero 40 = .ok (.iload 5, 2) := by decide +kernel
theorem d_C_weightAtZero_42 : decode b_C_weightAtZero 42 = .ok (.invokevirtual 175, 3) := by decide +kernel
theorem d_C_weightAtZero_45 : decode b_C_weightAtZero 45 = .ok (.istore_n 3, 1) := by decide +kernel
theorem d_C_weightAtZero_46 : decode b_C_weightAtZero 46 = .ok (.aload_n 0, 1) := by decide +kernel
theorem d_C_weightAtZero_47 : decode b_C_weightAtZero 47 = .ok (.getfield 13, 3) := by decide +kernel
theorem d_C_weightAtZero_50 : decode b_C_weightAtZero 50 = .ok (.iload 4, 2) := by decide +kernel
theorem d_C_weightAtZero_52 : decode b_C_weightAtZero 52 = .ok (.aload_n 0, 1) := by decide +kernel
theorem d_C_weightAtZero_53 : decode b_C_weightAtZero 53 = .ok (.getfield 13, 3) := by decide +kernel
theorem d_C_weightAtZero_56 : decode b_C_weightAtZero 56 = .ok (.iload 5, 2) := by decide +kernel
theorem d_C_weightAtZero_58 : decode b_C_weightAtZero 58 = .ok (.iload_n 1, 1) := by decide +kernel
theorem d_C_weightAtZero_59 : decode b_C_weightAtZero 59 = .ok (.invokevirtual 227, 3) := by decide +kernel
theorem d_C_weightAtZero_62 : decode b_C_weightAtZero 62 = .ok (.invokevirtual 175, 3) := by decide +kernel
theorem d_C_weightAtZero_65 : decode b_C_weightAtZero 65 = .ok (.istore 4, 2) := by decide +kernel
theorem d_C_weightAtZero_67 : decode b_C_weightAtZero 67 = .ok (.iinc 5 1, 3) := by decide +kernel
theorem d_C_weightAtZero_70 : decode b_C_weightAtZero 70 = .ok (.goto (-62), 3) := by decide +kernel
theorem d_C_weightAtZero_73 : decode b_C_weightAtZero 73 = .ok (.aload_n 0, 1) := by decide +kernel
theorem d_C_weightAtZero_74 : decode b_C_weightAtZero 74 = .ok (.getfield 13, 3) := by decide +kernel
theorem d_C_weightAtZero_77 : decode b_C_weightAtZero 77 = .ok (.iload_n 3, 1) := by decide +kernel
theorem d_C_weightAtZero_78 : decode b_C_weightAtZero 78 = .ok (.iload 4, 2) := by decide +kernel
theorem d_C_weightAtZero_80 : decode b_C_weightAtZero 80 = .ok (.invokevirtual 230, 3) := by decide +kernel
theorem d_C_weightAtZero_83 : decode b_C_weightAtZero 83 = .ok (.ireturn, 1) := by decide +kernel
