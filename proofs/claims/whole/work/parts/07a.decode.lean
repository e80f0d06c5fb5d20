theorem dX0_init_0 : decode cX0_init 0 = .ok (.aload_n 0, 1) := by decide +kernel
theorem dX0_init_1 : decode cX0_init 1 = .ok (.invokespecial 3, 3) := by decide +kernel
theorem dX0_init_4 : decode cX0_init 4 = .ok (.aload_n 0, 1) := by decide +kernel
theorem dX0_init_5 : decode cX0_init 5 = .ok (.bipush 7, 2) := by decide +kernel
theorem dX0_init_7 : decode cX0_init 7 = .ok (.newarray .int, 2) := by decide +kernel
theorem dX0_init_9 : decode cX0_init 9 = .ok (.putfield 9, 3) := by decide +kernel
theorem dX0_init_12 : decode cX0_init 12 = .ok (.aload_n 0, 1) := by decide +kernel
theorem dX0_init_13 : decode cX0_init 13 = .ok (.bipush 7, 2) := by decide +kernel
theorem dX0_init_15 : decode cX0_init 15 = .ok (.newarray .int, 2) := by decide +kernel
theorem dX0_init_17 : decode cX0_init 17 = .ok (.putfield 15, 3) := by decide +kernel
theorem dX0_init_20 : decode cX0_init 20 = .ok (.aload_n 0, 1) := by decide +kernel
theorem dX0_init_21 : decode cX0_init 21 = .ok (.bipush 7, 2) := by decide +kernel
theorem dX0_init_23 : decode cX0_init 23 = .ok (.newarray .int, 2) := by decide +kernel
theorem dX0_init_25 : decode cX0_init 25 = .ok (.putfield 18, 3) := by decide +kernel
theorem dX0_init_28 : decode cX0_init 28 = .ok (.aload_n 0, 1) := by decide +kernel
theorem dX0_init_29 : decode cX0_init 29 = .ok (.iconst 0, 1) := by decide +kernel
theorem dX0_init_30 : decode cX0_init 30 = .ok (.putfield 21, 3) := by decide +kernel
theorem dX0_init_33 : decode cX0_init 33 = .ok (.return_, 1) := by decide +kernel
theorem dX0_read_0 : decode cX0_read 0 = .ok (.aload_n 0, 1) := by decide +kernel
theorem dX0_read_1 : decode cX0_read 1 = .ok (.iconst 0, 1) := by decide +kernel
theorem dX0_read_2 : decode cX0_read 2 = .ok (.putfield 21, 3) := by decide +kernel
theorem dX0_read_5 : decode cX0_read 5 = .ok (.iconst 0, 1) := by decide +kernel
theorem dX0_read_6 : decode cX0_read 6 = .ok (.istore_n 2, 1) := by decide +kernel
theorem dX0_read_7 : decode cX0_read 7 = .ok (.iload_n 2, 1) := by decide +kernel
theorem dX0_read_8 : decode cX0_read 8 = .ok (.aload_n 1, 1) := by decide +kernel
theorem dX0_read_9 : decode cX0_read 9 = .ok (.getfield 25, 3) := by decide +kernel
theorem dX0_read_12 : decode cX0_read 12 = .ok (.if_icmp .ge 83, 3) := by decide +kernel
theorem dX0_read_15 : decode cX0_read 15 = .ok (.aload_n 0, 1) := by decide +kernel
theorem dX0_read_16 : decode cX0_read 16 = .ok (.getfield 21, 3) := by decide +kernel
theorem dX0_read_19 : decode cX0_read 19 = .ok (.bipush 7, 2) := by decide +kernel
theorem dX0_read_21 : decode cX0_read 21 = .ok (.if_icmp .ge 74, 3) := by decide +kernel
theorem dX0_read_24 : decode cX0_read 24 = .ok (.aload_n 0, 1) := by decide +kernel
theorem dX0_read_25 : decode cX0_read 25 = .ok (.getfield 9, 3) := by decide +kernel
theorem dX0_read_28 : decode cX0_read 28 = .ok (.aload_n 0, 1) := by decide +kernel
theorem dX0_read_29 : decode cX0_read 29 = .ok (.getfield 21, 3) := by decide +kernel
theorem dX0_read_32 : decode cX0_read 32 = .ok (.aload_n 1, 1) := by decide +kernel
theorem dX0_read_33 : decode cX0_read 33 = .ok (.iload_n 2, 1) := by decide +kernel
theorem dX0_read_34 : decode cX0_read 34 = .ok (.invokevirtual 30, 3) := by decide +kernel
theorem dX0_read_37 : decode cX0_read 37 = .ok (.invokestatic 34, 3) := by decide +kernel
theorem dX0_read_40 : decode cX0_read 40 = .ok (.iastore, 1) := by decide +kernel
theorem dX0_read_41 : decode cX0_read 41 = .ok (.aload_n 0, 1) := by decide +kernel
theorem dX0_read_42 : decode cX0_read 42 = .ok (.getfield 15, 3) := by decide +kernel
theorem dX0_read_45 : decode cX0_read 45 = .ok (.aload_n 0, 1) := by decide +kernel
theorem dX0_read_46 : decode cX0_read 46 = .ok (.getfield 21, 3) := by decide +kernel
theorem dX0_read_49 : decode cX0_read 49 = .ok (.aload_n 1, 1) := by decide +kernel
theorem dX0_read_50 : decode cX0_read 50 = .ok (.iload_n 2, 1) := by decide +kernel
theorem dX0_read_51 : decode cX0_read 51 = .ok (.iconst 1, 1) := by decide +kernel
theorem dX0_read_52 : decode cX0_read 52 = .ok (.iadd, 1) := by decide +kernel
theorem dX0_read_53 : decode cX0_read 53 = .ok (.invokevirtual 30, 3) := by decide +kernel
theorem dX0_read_56 : decode cX0_read 56 = .ok (.bipush 48, 2) := by decide +kernel
theorem dX0_read_58 : decode cX0_read 58 = .ok (.isub, 1) := by decide +kernel
theorem dX0_read_59 : decode cX0_read 59 = .ok (.iastore, 1) := by decide +kernel
theorem dX0_read_60 : decode cX0_read 60 = .ok (.aload_n 0, 1) := by decide +kernel
theorem dX0_read_61 : decode cX0_read 61 = .ok (.getfield 18, 3) := by decide +kernel
theorem dX0_read_64 : decode cX0_read 64 = .ok (.aload_n 0, 1) := by decide +kernel
theorem dX0_read_65 : decode cX0_read 65 = .ok (.getfield 21, 3) := by decide +kernel
theorem dX0_read_68 : decode cX0_read 68 = .ok (.aload_n 1, 1) := by decide +kernel
theorem dX0_read_69 : decode cX0_read 69 = .ok (.iload_n 2, 1) := by decide +kernel
theorem dX0_read_70 : decode cX0_read 70 = .ok (.iconst 2, 1) := by decide +kernel
theorem dX0_read_71 : decode cX0_read 71 = .ok (.iadd, 1) := by decide +kernel
theorem dX0_read_72 : decode cX0_read 72 = .ok (.invokevirtual 30, 3) := by decide +kernel
theorem dX0_read_75 : decode cX0_read 75 = .ok (.bipush 48, 2) := by decide +kernel
theorem dX0_read_77 : decode cX0_read 77 = .ok (.isub, 1) := by decide +kernel
theorem dX0_read_78 : decode cX0_read 78 = .ok (.iastore, 1) := by decide +kernel
theorem dX0_read_79 : decode cX0_read 79 = .ok (.aload_n 0, 1) := by decide +kernel
theorem dX0_read_80 : decode cX0_read 80 = .ok (.dup, 1) := by decide +kernel
theorem dX0_read_81 : decode cX0_read 81 = .ok (.getfield 21, 3) := by decide +kernel
theorem dX0_read_84 : decode cX0_read 84 = .ok (.iconst 1, 1) := by decide +kernel
theorem dX0_read_85 : decode cX0_read 85 = .ok (.iadd, 1) := by decide +kernel
theorem dX0_read_86 : decode cX0_read 86 = .ok (.putfield 21, 3) := by decide +kernel
theorem dX0_read_89 : decode cX0_read 89 = .ok (.iinc 2 4, 3) := by decide +kernel
theorem dX0_read_92 : decode cX0_read 92 = .ok (.goto (-85), 3) := by decide +kernel
theorem dX0_read_95 : decode cX0_read 95 = .ok (.return_, 1) := by decide +kernel
theorem dX0_has_0 : decode cX0_has 0 = .ok (.iload_n 1, 1) := by decide +kernel
theorem dX0_has_1 : decode cX0_has 1 = .ok (.ifCond .lt 15, 3) := by decide +kernel
theorem dX0_has_4 : decode cX0_has 4 = .ok (.iload_n 1, 1) := by decide +kernel
theorem dX0_has_5 : decode cX0_has 5 = .ok (.aload_n 0, 1) := by decide +kernel
theorem dX0_has_6 : decode cX0_has 6 = .ok (.getfield 21, 3) := by decide +kernel
theorem dX0_has_9 : decode cX0_has 9 = .ok (.if_icmp .ge 7, 3) := by decide +kernel
theorem dX0_has_12 : decode cX0_has 12 = .ok (.iconst 1, 1) := by decide +kernel
theorem dX0_has_13 : decode cX0_has 13 = .ok (.goto 4, 3) := by decide +kernel
theorem dX0_has_16 : decode cX0_has 16 = .ok (.iconst 0, 1) := by decide +kernel
theorem dX0_has_17 : decode cX0_has 17 = .ok (.ireturn, 1) := by decide +kernel
theorem dX0_kindOf_0 : decode cX0_kindOf 0 = .ok (.aload_n 0, 1) := by decide +kernel
theorem dX0_kindOf_1 : decode cX0_kindOf 1 = .ok (.iload_n 1, 1) := by decide +kernel
theorem dX0_kindOf_2 : decode cX0_kindOf 2 = .ok (.invokevirtual 37, 3) := by decide +kernel
theorem dX0_kindOf_5 : decode cX0_kindOf 5 = .ok (.ifCond .eq 12, 3) := by decide +kernel
theorem dX0_kindOf_8 : decode cX0_kindOf 8 = .ok (.aload_n 0, 1) := by decide +kernel
theorem dX0_kindOf_9 : decode cX0_kindOf 9 = .ok (.getfield 9, 3) := by decide +kernel
theorem dX0_kindOf_12 : decode cX0_kindOf 12 = .ok (.iload_n 1, 1) := by decide +kernel
theorem dX0_kindOf_13 : decode cX0_kindOf 13 = .ok (.iaload, 1) := by decide +kernel
theorem dX0_kindOf_14 : decode cX0_kindOf 14 = .ok (.goto 4, 3) := by decide +kernel
theorem dX0_kindOf_17 : decode cX0_kindOf 17 = .ok (.iconst (-1), 1) := by decide +kernel
theorem dX0_kindOf_18 : decode cX0_kindOf 18 = .ok (.ireturn, 1) := by decide +kernel
theorem dX0_worthOf_0 : decode cX0_worthOf 0 = .ok (.aload_n 0, 1) := by decide +kernel
theorem dX0_worthOf_1 : decode cX0_worthOf 1 = .ok (.iload_n 1, 1) := by decide +kernel
theorem dX0_worthOf_2 : decode cX0_worthOf 2 = .ok (.invokevirtual 37, 3) := by decide +kernel
theorem dX0_worthOf_5 : decode cX0_worthOf 5 = .ok (.ifCond .eq 12, 3) := by decide +kernel
theorem dX0_worthOf_8 : decode cX0_worthOf 8 = .ok (.aload_n 0, 1) := by decide +kernel
theorem dX0_worthOf_9 : decode cX0_worthOf 9 = .ok (.getfield 15, 3) := by decide +kernel
theorem dX0_worthOf_12 : decode cX0_worthOf 12 = .ok (.iload_n 1, 1) := by decide +kernel
theorem dX0_worthOf_13 : decode cX0_worthOf 13 = .ok (.iaload, 1) := by decide +kernel
theorem dX0_worthOf_14 : decode cX0_worthOf 14 = .ok (.goto 4, 3) := by decide +kernel
theorem dX0_worthOf_17 : decode cX0_worthOf 17 = .ok (.iconst 0, 1) := by decide +kernel
theorem dX0_worthOf_18 : decode cX0_worthOf 18 = .ok (.ireturn, 1) := by decide +kernel
theorem dX0_sureOf_0 : decode cX0_sureOf 0 = .ok (.aload_n 0, 1) := by decide +kernel
theorem dX0_sureOf_1 : decode cX0_sureOf 1 = .ok (.iload_n 1, 1) := by decide +kernel
theorem dX0_sureOf_2 : decode cX0_sureOf 2 = .ok (.invokevirtual 37, 3) := by decide +kernel
theorem dX0_sureOf_5 : decode cX0_sureOf 5 = .ok (.ifCond .eq 12, 3) := by decide +kernel
theorem dX0_sureOf_8 : decode cX0_sureOf 8 = .ok (.aload_n 0, 1) := by decide +kernel
theorem dX0_sureOf_9 : decode cX0_sureOf 9 = .ok (.getfield 18, 3) := by decide +kernel
theorem dX0_sureOf_12 : decode cX0_sureOf 12 = .ok (.iload_n 1, 1) := by decide +kernel
theorem dX0_sureOf_13 : decode cX0_sureOf 13 = .ok (.iaload, 1) := by decide +kernel
theorem dX0_sureOf_14 : decode cX0_sureOf 14 = .ok (.goto 4, 3) := by decide +kernel
theorem dX0_sureOf_17 : decode cX0_sureOf 17 = .ok (.iconst 0, 1) := by decide +kernel
theorem dX0_sureOf_18 : decode cX0_sureOf 18 = .ok (.ireturn, 1) := by decide +kernel
theorem dX0_isA_0 : decode cX0_isA 0 = .ok (.aload_n 0, 1) := by decide +kernel
theorem dX0_isA_1 : decode cX0_isA 1 = .ok (.iload_n 1, 1) := by decide +kernel
theorem dX0_isA_2 : decode cX0_isA 2 = .ok (.invokevirtual 37, 3) := by decide +kernel
theorem dX0_isA_5 : decode cX0_isA 5 = .ok (.ifCond .ne 5, 3) := by decide +kernel
theorem dX0_isA_8 : decode cX0_isA 8 = .ok (.iconst 0, 1) := by decide +kernel
theorem dX0_isA_9 : decode cX0_isA 9 = .ok (.ireturn, 1) := by decide +kernel
theorem dX0_isA_10 : decode cX0_isA 10 = .ok (.aload_n 0, 1) := by decide +kernel
theorem dX0_isA_11 : decode cX0_isA 11 = .ok (.getfield 9, 3) := by decide +kernel
theorem dX0_isA_14 : decode cX0_isA 14 = .ok (.iload_n 1, 1) := by decide +kernel
theorem dX0_isA_15 : decode cX0_isA 15 = .ok (.iaload, 1) := by decide +kernel
theorem dX0_isA_16 : decode cX0_isA 16 = .ok (.istore_n 3, 1) := by decide +kernel
theorem dX0_isA_17 : decode cX0_isA 17 = .ok (.iload_n 2, 1) := by decide +kernel
theorem dX0_isA_18 : decode cX0_isA 18 = .ok (.ifCond .eq 18, 3) := by decide +kernel
theorem dX0_isA_21 : decode cX0_isA 21 = .ok (.iload_n 2, 1) := by decide +kernel
theorem dX0_isA_22 : decode cX0_isA 22 = .ok (.iload_n 3, 1) := by decide +kernel
theorem dX0_isA_23 : decode cX0_isA 23 = .ok (.if_icmp .eq 13, 3) := by decide +kernel
theorem dX0_isA_26 : decode cX0_isA 26 = .ok (.iload_n 2, 1) := by decide +kernel
theorem dX0_isA_27 : decode cX0_isA 27 = .ok (.iconst 1, 1) := by decide +kernel
theorem dX0_isA_28 : decode cX0_isA 28 = .ok (.if_icmp .ne 12, 3) := by decide +kernel
theorem dX0_isA_31 : decode cX0_isA 31 = .ok (.iload_n 3, 1) := by decide +kernel
theorem dX0_isA_32 : decode cX0_isA 32 = .ok (.iconst 4, 1) := by decide +kernel
theorem dX0_isA_33 : decode cX0_isA 33 = .ok (.if_icmp .ne 7, 3) := by decide +kernel
theorem dX0_isA_36 : decode cX0_isA 36 = .ok (.iconst 1, 1) := by decide +kernel
theorem dX0_isA_37 : decode cX0_isA 37 = .ok (.goto 4, 3) := by decide +kernel
theorem dX0_isA_40 : decode cX0_isA 40 = .ok (.iconst 0, 1) := by decide +kernel
theorem dX0_isA_41 : decode cX0_isA 41 = .ok (.ireturn, 1) := by decide +kernel
theorem dX1_init_0 : decode cX1_init 0 = .ok (.aload_n 0, 1) := by decide +kernel
theorem dX1_init_1 : decode cX1_init 1 = .ok (.invokespecial 3, 3) := by decide +kernel
theorem dX1_init_4 : decode cX1_init 4 = .ok (.aload_n 0, 1) := by decide +kernel
theorem dX1_init_5 : decode cX1_init 5 = .ok (.bipush 30, 2) := by decide +kernel
theorem dX1_init_7 : decode cX1_init 7 = .ok (.newarray .int, 2) := by decide +kernel
theorem dX1_init_9 : decode cX1_init 9 = .ok (.putfield 9, 3) := by decide +kernel
theorem dX1_init_12 : decode cX1_init 12 = .ok (.aload_n 0, 1) := by decide +kernel
theorem dX1_init_13 : decode cX1_init 13 = .ok (.iconst 0, 1) := by decide +kernel
theorem dX1_init_14 : decode cX1_init 14 = .ok (.putfield 15, 3) := by decide +kernel
theorem dX1_init_17 : decode cX1_init 17 = .ok (.return_, 1) := by decide +kernel
theorem dX1_add_0 : decode cX1_add 0 = .ok (.aload_n 0, 1) := by decide +kernel
theorem dX1_add_1 : decode cX1_add 1 = .ok (.getfield 15, 3) := by decide +kernel
theorem dX1_add_4 : decode cX1_add 4 = .ok (.bipush 30, 2) := by decide +kernel
theorem dX1_add_6 : decode cX1_add 6 = .ok (.if_icmp .ge 23, 3) := by decide +kernel
theorem dX1_add_9 : decode cX1_add 9 = .ok (.aload_n 0, 1) := by decide +kernel
theorem dX1_add_10 : decode cX1_add 10 = .ok (.getfield 9, 3) := by decide +kernel
theorem dX1_add_13 : decode cX1_add 13 = .ok (.aload_n 0, 1) := by decide +kernel
theorem dX1_add_14 : decode cX1_add 14 = .ok (.getfield 15, 3) := by decide +kernel
theorem dX1_add_17 : decode cX1_add 17 = .ok (.iload_n 1, 1) := by decide +kernel
theorem dX1_add_18 : decode cX1_add 18 = .ok (.iastore, 1) := by decide +kernel
theorem dX1_add_19 : decode cX1_add 19 = .ok (.aload_n 0, 1) := by decide +kernel
theorem dX1_add_20 : decode cX1_add 20 = .ok (.dup, 1) := by decide +kernel
theorem dX1_add_21 : decode cX1_add 21 = .ok (.getfield 15, 3) := by decide +kernel
theorem dX1_add_24 : decode cX1_add 24 = .ok (.iconst 1, 1) := by decide +kernel
theorem dX1_add_25 : decode cX1_add 25 = .ok (.iadd, 1) := by decide +kernel
theorem dX1_add_26 : decode cX1_add 26 = .ok (.putfield 15, 3) := by decide +kernel
theorem dX1_add_29 : decode cX1_add 29 = .ok (.return_, 1) := by decide +kernel
theorem dX1_codeAt_0 : decode cX1_codeAt 0 = .ok (.iload_n 1, 1) := by decide +kernel
theorem dX1_codeAt_1 : decode cX1_codeAt 1 = .ok (.ifCond .lt 20, 3) := by decide +kernel
theorem dX1_codeAt_4 : decode cX1_codeAt 4 = .ok (.iload_n 1, 1) := by decide +kernel
theorem dX1_codeAt_5 : decode cX1_codeAt 5 = .ok (.aload_n 0, 1) := by decide +kernel
theorem dX1_codeAt_6 : decode cX1_codeAt 6 = .ok (.getfield 15, 3) := by decide +kernel
theorem dX1_codeAt_9 : decode cX1_codeAt 9 = .ok (.if_icmp .ge 12, 3) := by decide +kernel
theorem dX1_codeAt_12 : decode cX1_codeAt 12 = .ok (.aload_n 0, 1) := by decide +kernel
theorem dX1_codeAt_13 : decode cX1_codeAt 13 = .ok (.getfield 9, 3) := by decide +kernel
theorem dX1_codeAt_16 : decode cX1_codeAt 16 = .ok (.iload_n 1, 1) := by decide +kernel
theorem dX1_codeAt_17 : decode cX1_codeAt 17 = .ok (.iaload, 1) := by decide +kernel
theorem dX1_codeAt_18 : decode cX1_codeAt 18 = .ok (.goto 4, 3) := by decide +kernel
theorem dX1_codeAt_21 : decode cX1_codeAt 21 = .ok (.iconst (-1), 1) := by decide +kernel
theorem dX1_codeAt_22 : decode cX1_codeAt 22 = .ok (.ireturn, 1) := by decide +kernel
theorem dX1_firstFault_0 : decode cX1_firstFault 0 = .ok (.iconst 0, 1) := by decide +kernel
theorem dX1_firstFault_1 : decode cX1_firstFault 1 = .ok (.istore_n 1, 1) := by decide +kernel
theorem dX1_firstFault_2 : decode cX1_firstFault 2 = .ok (.iload_n 1, 1) := by decide +kernel
theorem dX1_firstFault_3 : decode cX1_firstFault 3 = .ok (.aload_n 0, 1) := by decide +kernel
theorem dX1_firstFault_4 : decode cX1_firstFault 4 = .ok (.getfield 15, 3) := by decide +kernel
theorem dX1_firstFault_7 : decode cX1_firstFault 7 = .ok (.if_icmp .ge 24, 3) := by decide +kernel
theorem dX1_firstFault_10 : decode cX1_firstFault 10 = .ok (.iload_n 1, 1) := by decide +kernel
theorem dX1_firstFault_11 : decode cX1_firstFault 11 = .ok (.aload_n 0, 1) := by decide +kernel
theorem dX1_firstFault_12 : decode cX1_firstFault 12 = .ok (.getfield 9, 3) := by decide +kernel
theorem dX1_firstFault_15 : decode cX1_firstFault 15 = .ok (.iload_n 1, 1) := by decide +kernel
theorem dX1_firstFault_16 : decode cX1_firstFault 16 = .ok (.iaload, 1) := by decide +kernel
theorem dX1_firstFault_17 : decode cX1_firstFault 17 = .ok (.invokestatic 19, 3) := by decide +kernel
theorem dX1_firstFault_20 : decode cX1_firstFault 20 = .ok (.ifCond .ne 5, 3) := by decide +kernel
theorem dX1_firstFault_23 : decode cX1_firstFault 23 = .ok (.iload_n 1, 1) := by decide +kernel
theorem dX1_firstFault_24 : decode cX1_firstFault 24 = .ok (.ireturn, 1) := by decide +kernel
theorem dX1_firstFault_25 : decode cX1_firstFault 25 = .ok (.iinc 1 1, 3) := by decide +kernel
theorem dX1_firstFault_28 : decode cX1_firstFault 28 = .ok (.goto (-26), 3) := by decide +kernel
theorem dX1_firstFault_31 : decode cX1_firstFault 31 = .ok (.aload_n 0, 1) := by decide +kernel
theorem dX1_firstFault_32 : decode cX1_firstFault 32 = .ok (.getfield 15, 3) := by decide +kernel
theorem dX1_firstFault_35 : decode cX1_firstFault 35 = .ok (.ireturn, 1) := by decide +kernel
theorem dX1_tellsGym_0 : decode cX1_tellsGym 0 = .ok (.aload_n 0, 1) := by decide +kernel
theorem dX1_tellsGym_1 : decode cX1_tellsGym 1 = .ok (.getfield 15, 3) := by decide +kernel
theorem dX1_tellsGym_4 : decode cX1_tellsGym 4 = .ok (.iconst 4, 1) := by decide +kernel
theorem dX1_tellsGym_5 : decode cX1_tellsGym 5 = .ok (.irem, 1) := by decide +kernel
theorem dX1_tellsGym_6 : decode cX1_tellsGym 6 = .ok (.iconst 3, 1) := by decide +kernel
theorem dX1_tellsGym_7 : decode cX1_tellsGym 7 = .ok (.if_icmp .ne 7, 3) := by decide +kernel
theorem dX1_tellsGym_10 : decode cX1_tellsGym 10 = .ok (.iconst 1, 1) := by decide +kernel
theorem dX1_tellsGym_11 : decode cX1_tellsGym 11 = .ok (.goto 4, 3) := by decide +kernel
theorem dX1_tellsGym_14 : decode cX1_tellsGym 14 = .ok (.iconst 0, 1) := by decide +kernel
theorem dX1_tellsGym_15 : decode cX1_tellsGym 15 = .ok (.istore_n 1, 1) := by decide +kernel
theorem dX1_tellsGym_16 : decode cX1_tellsGym 16 = .ok (.aload_n 0, 1) := by decide +kernel
theorem dX1_tellsGym_17 : decode cX1_tellsGym 17 = .ok (.getfield 15, 3) := by decide +kernel
theorem dX1_tellsGym_20 : decode cX1_tellsGym 20 = .ok (.bipush 7, 2) := by decide +kernel
theorem dX1_tellsGym_22 : decode cX1_tellsGym 22 = .ok (.if_icmp .lt 22, 3) := by decide +kernel
theorem dX1_tellsGym_25 : decode cX1_tellsGym 25 = .ok (.iload_n 1, 1) := by decide +kernel
theorem dX1_tellsGym_26 : decode cX1_tellsGym 26 = .ok (.ifCond .eq 18, 3) := by decide +kernel
theorem dX1_tellsGym_29 : decode cX1_tellsGym 29 = .ok (.aload_n 0, 1) := by decide +kernel
theorem dX1_tellsGym_30 : decode cX1_tellsGym 30 = .ok (.invokevirtual 23, 3) := by decide +kernel
theorem dX1_tellsGym_33 : decode cX1_tellsGym 33 = .ok (.aload_n 0, 1) := by decide +kernel
theorem dX1_tellsGym_34 : decode cX1_tellsGym 34 = .ok (.getfield 15, 3) := by decide +kernel
theorem dX1_tellsGym_37 : decode cX1_tellsGym 37 = .ok (.if_icmp .ne 7, 3) := by decide +kernel
theorem dX1_tellsGym_40 : decode cX1_tellsGym 40 = .ok (.iconst 1, 1) := by decide +kernel
theorem dX1_tellsGym_41 : decode cX1_tellsGym 41 = .ok (.goto 4, 3) := by decide +kernel
theorem dX1_tellsGym_44 : decode cX1_tellsGym 44 = .ok (.iconst 0, 1) := by decide +kernel
theorem dX1_tellsGym_45 : decode cX1_tellsGym 45 = .ok (.ireturn, 1) := by decide +kernel
theorem dX1_fits_0 : decode cX1_fits 0 = .ok (.iload_n 0, 1) := by decide +kernel
theorem dX1_fits_1 : decode cX1_fits 1 = .ok (.bipush 27, 2) := by decide +kernel
theorem dX1_fits_3 : decode cX1_fits 3 = .ok (.if_icmp .lt 5, 3) := by decide +kernel
theorem dX1_fits_6 : decode cX1_fits 6 = .ok (.iconst 0, 1) := by decide +kernel
theorem dX1_fits_7 : decode cX1_fits 7 = .ok (.ireturn, 1) := by decide +kernel
theorem dX1_fits_8 : decode cX1_fits 8 = .ok (.iload_n 0, 1) := by decide +kernel
theorem dX1_fits_9 : decode cX1_fits 9 = .ok (.iconst 4, 1) := by decide +kernel
theorem dX1_fits_10 : decode cX1_fits 10 = .ok (.irem, 1) := by decide +kernel
theorem dX1_fits_11 : decode cX1_fits 11 = .ok (.istore_n 2, 1) := by decide +kernel
theorem dX1_fits_12 : decode cX1_fits 12 = .ok (.iload_n 2, 1) := by decide +kernel
theorem dX1_fits_13 : decode cX1_fits 13 = .ok (.ifCond .ne 17, 3) := by decide +kernel
theorem dX1_fits_16 : decode cX1_fits 16 = .ok (.iload_n 1, 1) := by decide +kernel
theorem dX1_fits_17 : decode cX1_fits 17 = .ok (.invokestatic 27, 3) := by decide +kernel
theorem dX1_fits_20 : decode cX1_fits 20 = .ok (.iconst (-1), 1) := by decide +kernel
theorem dX1_fits_21 : decode cX1_fits 21 = .ok (.if_icmp .eq 7, 3) := by decide +kernel
theorem dX1_fits_24 : decode cX1_fits 24 = .ok (.iconst 1, 1) := by decide +kernel
theorem dX1_fits_25 : decode cX1_fits 25 = .ok (.goto 4, 3) := by decide +kernel
theorem dX1_fits_28 : decode cX1_fits 28 = .ok (.iconst 0, 1) := by decide +kernel
theorem dX1_fits_29 : decode cX1_fits 29 = .ok (.ireturn, 1) := by decide +kernel
theorem dX1_fits_30 : decode cX1_fits 30 = .ok (.iload_n 2, 1) := by decide +kernel
theorem dX1_fits_31 : decode cX1_fits 31 = .ok (.iconst 3, 1) := by decide +kernel
theorem dX1_fits_32 : decode cX1_fits 32 = .ok (.if_icmp .ne 15, 3) := by decide +kernel
theorem dX1_fits_35 : decode cX1_fits 35 = .ok (.iload_n 1, 1) := by decide +kernel
theorem dX1_fits_36 : decode cX1_fits 36 = .ok (.bipush 44, 2) := by decide +kernel
theorem dX1_fits_38 : decode cX1_fits 38 = .ok (.if_icmp .ne 7, 3) := by decide +kernel
theorem dX1_fits_41 : decode cX1_fits 41 = .ok (.iconst 1, 1) := by decide +kernel
theorem dX1_fits_42 : decode cX1_fits 42 = .ok (.goto 4, 3) := by decide +kernel
theorem dX1_fits_45 : decode cX1_fits 45 = .ok (.iconst 0, 1) := by decide +kernel
theorem dX1_fits_46 : decode cX1_fits 46 = .ok (.ireturn, 1) := by decide +kernel
theorem dX1_fits_47 : decode cX1_fits 47 = .ok (.iload_n 1, 1) := by decide +kernel
theorem dX1_fits_48 : decode cX1_fits 48 = .ok (.bipush 49, 2) := by decide +kernel
theorem dX1_fits_50 : decode cX1_fits 50 = .ok (.if_icmp .lt 13, 3) := by decide +kernel
theorem dX1_fits_53 : decode cX1_fits 53 = .ok (.iload_n 1, 1) := by decide +kernel
theorem dX1_fits_54 : decode cX1_fits 54 = .ok (.bipush 57, 2) := by decide +kernel
theorem dX1_fits_56 : decode cX1_fits 56 = .ok (.if_icmp .gt 7, 3) := by decide +kernel
theorem dX1_fits_59 : decode cX1_fits 59 = .ok (.iconst 1, 1) := by decide +kernel
theorem dX1_fits_60 : decode cX1_fits 60 = .ok (.goto 4, 3) := by decide +kernel
theorem dX1_fits_63 : decode cX1_fits 63 = .ok (.iconst 0, 1) := by decide +kernel
theorem dX1_fits_64 : decode cX1_fits 64 = .ok (.ireturn, 1) := by decide +kernel
theorem dX1_kindByLetter_0 : decode cX1_kindByLetter 0 = .ok (.iload_n 0, 1) := by decide +kernel
theorem dX1_kindByLetter_1 : decode cX1_kindByLetter 1 = .ok (.tableswitch 85 102 116 #[77, 85, 81, 85, 85, 85, 85, 85, 85, 85, 75, 85, 83, 85, 79], 75) := by decide +kernel
theorem dX1_kindByLetter_76 : decode cX1_kindByLetter 76 = .ok (.iconst 0, 1) := by decide +kernel
theorem dX1_kindByLetter_77 : decode cX1_kindByLetter 77 = .ok (.ireturn, 1) := by decide +kernel
theorem dX1_kindByLetter_78 : decode cX1_kindByLetter 78 = .ok (.iconst 1, 1) := by decide +kernel
theorem dX1_kindByLetter_79 : decode cX1_kindByLetter 79 = .ok (.ireturn, 1) := by decide +kernel
theorem dX1_kindByLetter_80 : decode cX1_kindByLetter 80 = .ok (.iconst 2, 1) := by decide +kernel
theorem dX1_kindByLetter_81 : decode cX1_kindByLetter 81 = .ok (.ireturn, 1) := by decide +kernel
theorem dX1_kindByLetter_82 : decode cX1_kindByLetter 82 = .ok (.iconst 3, 1) := by decide +kernel
theorem dX1_kindByLetter_83 : decode cX1_kindByLetter 83 = .ok (.ireturn, 1) := by decide +kernel
theorem dX1_kindByLetter_84 : decode cX1_kindByLetter 84 = .ok (.iconst 4, 1) := by decide +kernel
theorem dX1_kindByLetter_85 : decode cX1_kindByLetter 85 = .ok (.ireturn, 1) := by decide +kernel
theorem dX1_kindByLetter_86 : decode cX1_kindByLetter 86 = .ok (.iconst (-1), 1) := by decide +kernel
theorem dX1_kindByLetter_87 : decode cX1_kindByLetter 87 = .ok (.ireturn, 1) := by decide +kernel
theorem dX2_init_0 : decode cX2_init 0 = .ok (.aload_n 0, 1) := by decide +kernel
theorem dX2_init_1 : decode cX2_init 1 = .ok (.invokespecial 3, 3) := by decide +kernel
theorem dX2_init_4 : decode cX2_init 4 = .ok (.aload_n 0, 1) := by decide +kernel
theorem dX2_init_5 : decode cX2_init 5 = .ok (.iconst 5, 1) := by decide +kernel
theorem dX2_init_6 : decode cX2_init 6 = .ok (.newarray .int, 2) := by decide +kernel
theorem dX2_init_8 : decode cX2_init 8 = .ok (.putfield 9, 3) := by decide +kernel
theorem dX2_init_11 : decode cX2_init 11 = .ok (.aload_n 0, 1) := by decide +kernel
theorem dX2_init_12 : decode cX2_init 12 = .ok (.iconst 0, 1) := by decide +kernel
theorem dX2_init_13 : decode cX2_init 13 = .ok (.putfield 15, 3) := by decide +kernel
theorem dX2_init_16 : decode cX2_init 16 = .ok (.aload_n 0, 1) := by decide +kernel
theorem dX2_init_17 : decode cX2_init 17 = .ok (.aload_n 1, 1) := by decide +kernel
theorem dX2_init_18 : decode cX2_init 18 = .ok (.putfield 19, 3) := by decide +kernel
theorem dX2_init_21 : decode cX2_init 21 = .ok (.return_, 1) := by decide +kernel
theorem dX2_reaches_0 : decode cX2_reaches 0 = .ok (.iload_n 1, 1) := by decide +kernel
theorem dX2_reaches_1 : decode cX2_reaches 1 = .ok (.ifCond .lt 15, 3) := by decide +kernel
theorem dX2_reaches_4 : decode cX2_reaches 4 = .ok (.iload_n 1, 1) := by decide +kernel
theorem dX2_reaches_5 : decode cX2_reaches 5 = .ok (.aload_n 0, 1) := by decide +kernel
theorem dX2_reaches_6 : decode cX2_reaches 6 = .ok (.getfield 15, 3) := by decide +kernel
theorem dX2_reaches_9 : decode cX2_reaches 9 = .ok (.if_icmp .ge 7, 3) := by decide +kernel
theorem dX2_reaches_12 : decode cX2_reaches 12 = .ok (.iconst 1, 1) := by decide +kernel
theorem dX2_reaches_13 : decode cX2_reaches 13 = .ok (.goto 4, 3) := by decide +kernel
theorem dX2_reaches_16 : decode cX2_reaches 16 = .ok (.iconst 0, 1) := by decide +kernel
theorem dX2_reaches_17 : decode cX2_reaches 17 = .ok (.ireturn, 1) := by decide +kernel
theorem dX2_pieceAt_0 : decode cX2_pieceAt 0 = .ok (.aload_n 0, 1) := by decide +kernel
theorem dX2_pieceAt_1 : decode cX2_pieceAt 1 = .ok (.iload_n 1, 1) := by decide +kernel
theorem dX2_pieceAt_2 : decode cX2_pieceAt 2 = .ok (.invokevirtual 23, 3) := by decide +kernel
theorem dX2_pieceAt_5 : decode cX2_pieceAt 5 = .ok (.ifCond .eq 12, 3) := by decide +kernel
theorem dX2_pieceAt_8 : decode cX2_pieceAt 8 = .ok (.aload_n 0, 1) := by decide +kernel
theorem dX2_pieceAt_9 : decode cX2_pieceAt 9 = .ok (.getfield 9, 3) := by decide +kernel
theorem dX2_pieceAt_12 : decode cX2_pieceAt 12 = .ok (.iload_n 1, 1) := by decide +kernel
theorem dX2_pieceAt_13 : decode cX2_pieceAt 13 = .ok (.iaload, 1) := by decide +kernel
theorem dX2_pieceAt_14 : decode cX2_pieceAt 14 = .ok (.goto 4, 3) := by decide +kernel
theorem dX2_pieceAt_17 : decode cX2_pieceAt 17 = .ok (.iconst (-1), 1) := by decide +kernel
theorem dX2_pieceAt_18 : decode cX2_pieceAt 18 = .ok (.ireturn, 1) := by decide +kernel
theorem dX2_placeOf_0 : decode cX2_placeOf 0 = .ok (.iconst 0, 1) := by decide +kernel
theorem dX2_placeOf_1 : decode cX2_placeOf 1 = .ok (.istore_n 2, 1) := by decide +kernel
theorem dX2_placeOf_2 : decode cX2_placeOf 2 = .ok (.iload_n 2, 1) := by decide +kernel
theorem dX2_placeOf_3 : decode cX2_placeOf 3 = .ok (.aload_n 0, 1) := by decide +kernel
theorem dX2_placeOf_4 : decode cX2_placeOf 4 = .ok (.getfield 15, 3) := by decide +kernel
theorem dX2_placeOf_7 : decode cX2_placeOf 7 = .ok (.if_icmp .ge 21, 3) := by decide +kernel
theorem dX2_placeOf_10 : decode cX2_placeOf 10 = .ok (.aload_n 0, 1) := by decide +kernel
theorem dX2_placeOf_11 : decode cX2_placeOf 11 = .ok (.getfield 9, 3) := by decide +kernel
theorem dX2_placeOf_14 : decode cX2_placeOf 14 = .ok (.iload_n 2, 1) := by decide +kernel
theorem dX2_placeOf_15 : decode cX2_placeOf 15 = .ok (.iaload, 1) := by decide +kernel
theorem dX2_placeOf_16 : decode cX2_placeOf 16 = .ok (.iload_n 1, 1) := by decide +kernel
theorem dX2_placeOf_17 : decode cX2_placeOf 17 = .ok (.if_icmp .ne 5, 3) := by decide +kernel
theorem dX2_placeOf_20 : decode cX2_placeOf 20 = .ok (.iload_n 2, 1) := by decide +kernel
theorem dX2_placeOf_21 : decode cX2_placeOf 21 = .ok (.ireturn, 1) := by decide +kernel
theorem dX2_placeOf_22 : decode cX2_placeOf 22 = .ok (.iinc 2 1, 3) := by decide +kernel
theorem dX2_placeOf_25 : decode cX2_placeOf 25 = .ok (.goto (-23), 3) := by decide +kernel
theorem dX2_placeOf_28 : decode cX2_placeOf 28 = .ok (.iconst (-1), 1) := by decide +kernel
theorem dX2_placeOf_29 : decode cX2_placeOf 29 = .ok (.ireturn, 1) := by decide +kernel
theorem dX2_holds_0 : decode cX2_holds 0 = .ok (.aload_n 0, 1) := by decide +kernel
theorem dX2_holds_1 : decode cX2_holds 1 = .ok (.iload_n 1, 1) := by decide +kernel
theorem dX2_holds_2 : decode cX2_holds 2 = .ok (.invokevirtual 27, 3) := by decide +kernel
theorem dX2_holds_5 : decode cX2_holds 5 = .ok (.iconst (-1), 1) := by decide +kernel
theorem dX2_holds_6 : decode cX2_holds 6 = .ok (.if_icmp .eq 7, 3) := by decide +kernel
theorem dX2_holds_9 : decode cX2_holds 9 = .ok (.iconst 1, 1) := by decide +kernel
theorem dX2_holds_10 : decode cX2_holds 10 = .ok (.goto 4, 3) := by decide +kernel
theorem dX2_holds_13 : decode cX2_holds 13 = .ok (.iconst 0, 1) := by decide +kernel
theorem dX2_holds_14 : decode cX2_holds 14 = .ok (.ireturn, 1) := by decide +kernel
theorem dX2_append_0 : decode cX2_append 0 = .ok (.aload_n 0, 1) := by decide +kernel
theorem dX2_append_1 : decode cX2_append 1 = .ok (.getfield 15, 3) := by decide +kernel
theorem dX2_append_4 : decode cX2_append 4 = .ok (.iconst 5, 1) := by decide +kernel
theorem dX2_append_5 : decode cX2_append 5 = .ok (.if_icmp .ge 23, 3) := by decide +kernel
theorem dX2_append_8 : decode cX2_append 8 = .ok (.aload_n 0, 1) := by decide +kernel
theorem dX2_append_9 : decode cX2_append 9 = .ok (.getfield 9, 3) := by decide +kernel
theorem dX2_append_12 : decode cX2_append 12 = .ok (.aload_n 0, 1) := by decide +kernel
theorem dX2_append_13 : decode cX2_append 13 = .ok (.getfield 15, 3) := by decide +kernel
theorem dX2_append_16 : decode cX2_append 16 = .ok (.iload_n 1, 1) := by decide +kernel
theorem dX2_append_17 : decode cX2_append 17 = .ok (.iastore, 1) := by decide +kernel
theorem dX2_append_18 : decode cX2_append 18 = .ok (.aload_n 0, 1) := by decide +kernel
theorem dX2_append_19 : decode cX2_append 19 = .ok (.dup, 1) := by decide +kernel
theorem dX2_append_20 : decode cX2_append 20 = .ok (.getfield 15, 3) := by decide +kernel
theorem dX2_append_23 : decode cX2_append 23 = .ok (.iconst 1, 1) := by decide +kernel
theorem dX2_append_24 : decode cX2_append 24 = .ok (.iadd, 1) := by decide +kernel
theorem dX2_append_25 : decode cX2_append 25 = .ok (.putfield 15, 3) := by decide +kernel
theorem dX2_append_28 : decode cX2_append 28 = .ok (.return_, 1) := by decide +kernel
theorem dX2_removeAt_0 : decode cX2_removeAt 0 = .ok (.aload_n 0, 1) := by decide +kernel
theorem dX2_removeAt_1 : decode cX2_removeAt 1 = .ok (.iload_n 1, 1) := by decide +kernel
theorem dX2_removeAt_2 : decode cX2_removeAt 2 = .ok (.invokevirtual 23, 3) := by decide +kernel
theorem dX2_removeAt_5 : decode cX2_removeAt 5 = .ok (.ifCond .ne 5, 3) := by decide +kernel
theorem dX2_removeAt_8 : decode cX2_removeAt 8 = .ok (.iconst (-1), 1) := by decide +kernel
theorem dX2_removeAt_9 : decode cX2_removeAt 9 = .ok (.ireturn, 1) := by decide +kernel
theorem dX2_removeAt_10 : decode cX2_removeAt 10 = .ok (.aload_n 0, 1) := by decide +kernel
theorem dX2_removeAt_11 : decode cX2_removeAt 11 = .ok (.getfield 9, 3) := by decide +kernel
theorem dX2_removeAt_14 : decode cX2_removeAt 14 = .ok (.iload_n 1, 1) := by decide +kernel
theorem dX2_removeAt_15 : decode cX2_removeAt 15 = .ok (.iaload, 1) := by decide +kernel
theorem dX2_removeAt_16 : decode cX2_removeAt 16 = .ok (.istore_n 2, 1) := by decide +kernel
theorem dX2_removeAt_17 : decode cX2_removeAt 17 = .ok (.iload_n 1, 1) := by decide +kernel
theorem dX2_removeAt_18 : decode cX2_removeAt 18 = .ok (.iconst 1, 1) := by decide +kernel
theorem dX2_removeAt_19 : decode cX2_removeAt 19 = .ok (.iadd, 1) := by decide +kernel
theorem dX2_removeAt_20 : decode cX2_removeAt 20 = .ok (.istore_n 3, 1) := by decide +kernel
theorem dX2_removeAt_21 : decode cX2_removeAt 21 = .ok (.iload_n 3, 1) := by decide +kernel
theorem dX2_removeAt_22 : decode cX2_removeAt 22 = .ok (.aload_n 0, 1) := by decide +kernel
theorem dX2_removeAt_23 : decode cX2_removeAt 23 = .ok (.getfield 15, 3) := by decide +kernel
theorem dX2_removeAt_26 : decode cX2_removeAt 26 = .ok (.if_icmp .ge 23, 3) := by decide +kernel
theorem dX2_removeAt_29 : decode cX2_removeAt 29 = .ok (.aload_n 0, 1) := by decide +kernel
theorem dX2_removeAt_30 : decode cX2_removeAt 30 = .ok (.getfield 9, 3) := by decide +kernel
theorem dX2_removeAt_33 : decode cX2_removeAt 33 = .ok (.iload_n 3, 1) := by decide +kernel
theorem dX2_removeAt_34 : decode cX2_removeAt 34 = .ok (.iconst 1, 1) := by decide +kernel
theorem dX2_removeAt_35 : decode cX2_removeAt 35 = .ok (.isub, 1) := by decide +kernel
theorem dX2_removeAt_36 : decode cX2_removeAt 36 = .ok (.aload_n 0, 1) := by decide +kernel
theorem dX2_removeAt_37 : decode cX2_removeAt 37 = .ok (.getfield 9, 3) := by decide +kernel
theorem dX2_removeAt_40 : decode cX2_removeAt 40 = .ok (.iload_n 3, 1) := by decide +kernel
theorem dX2_removeAt_41 : decode cX2_removeAt 41 = .ok (.iaload, 1) := by decide +kernel
theorem dX2_removeAt_42 : decode cX2_removeAt 42 = .ok (.iastore, 1) := by decide +kernel
theorem dX2_removeAt_43 : decode cX2_removeAt 43 = .ok (.iinc 3 1, 3) := by decide +kernel
theorem dX2_removeAt_46 : decode cX2_removeAt 46 = .ok (.goto (-25), 3) := by decide +kernel
theorem dX2_removeAt_49 : decode cX2_removeAt 49 = .ok (.aload_n 0, 1) := by decide +kernel
theorem dX2_removeAt_50 : decode cX2_removeAt 50 = .ok (.dup, 1) := by decide +kernel
theorem dX2_removeAt_51 : decode cX2_removeAt 51 = .ok (.getfield 15, 3) := by decide +kernel
theorem dX2_removeAt_54 : decode cX2_removeAt 54 = .ok (.iconst 1, 1) := by decide +kernel
theorem dX2_removeAt_55 : decode cX2_removeAt 55 = .ok (.isub, 1) := by decide +kernel
theorem dX2_removeAt_56 : decode cX2_removeAt 56 = .ok (.putfield 15, 3) := by decide +kernel
theorem dX2_removeAt_59 : decode cX2_removeAt 59 = .ok (.iload_n 2, 1) := by decide +kernel
theorem dX2_removeAt_60 : decode cX2_removeAt 60 = .ok (.ireturn, 1) := by decide +kernel
theorem dX2_exchange_0 : decode cX2_exchange 0 = .ok (.aload_n 0, 1) := by decide +kernel
theorem dX2_exchange_1 : decode cX2_exchange 1 = .ok (.iload_n 1, 1) := by decide +kernel
theorem dX2_exchange_2 : decode cX2_exchange 2 = .ok (.invokevirtual 23, 3) := by decide +kernel
theorem dX2_exchange_5 : decode cX2_exchange 5 = .ok (.ifCond .eq 37, 3) := by decide +kernel
theorem dX2_exchange_8 : decode cX2_exchange 8 = .ok (.aload_n 0, 1) := by decide +kernel
theorem dX2_exchange_9 : decode cX2_exchange 9 = .ok (.iload_n 2, 1) := by decide +kernel
theorem dX2_exchange_10 : decode cX2_exchange 10 = .ok (.invokevirtual 23, 3) := by decide +kernel
theorem dX2_exchange_13 : decode cX2_exchange 13 = .ok (.ifCond .eq 29, 3) := by decide +kernel
theorem dX2_exchange_16 : decode cX2_exchange 16 = .ok (.aload_n 0, 1) := by decide +kernel
theorem dX2_exchange_17 : decode cX2_exchange 17 = .ok (.getfield 9, 3) := by decide +kernel
theorem dX2_exchange_20 : decode cX2_exchange 20 = .ok (.iload_n 1, 1) := by decide +kernel
theorem dX2_exchange_21 : decode cX2_exchange 21 = .ok (.iaload, 1) := by decide +kernel
theorem dX2_exchange_22 : decode cX2_exchange 22 = .ok (.istore_n 3, 1) := by decide +kernel
theorem dX2_exchange_23 : decode cX2_exchange 23 = .ok (.aload_n 0, 1) := by decide +kernel
theorem dX2_exchange_24 : decode cX2_exchange 24 = .ok (.getfield 9, 3) := by decide +kernel
theorem dX2_exchange_27 : decode cX2_exchange 27 = .ok (.iload_n 1, 1) := by decide +kernel
theorem dX2_exchange_28 : decode cX2_exchange 28 = .ok (.aload_n 0, 1) := by decide +kernel
theorem dX2_exchange_29 : decode cX2_exchange 29 = .ok (.getfield 9, 3) := by decide +kernel
theorem dX2_exchange_32 : decode cX2_exchange 32 = .ok (.iload_n 2, 1) := by decide +kernel
theorem dX2_exchange_33 : decode cX2_exchange 33 = .ok (.iaload, 1) := by decide +kernel
theorem dX2_exchange_34 : decode cX2_exchange 34 = .ok (.iastore, 1) := by decide +kernel
theorem dX2_exchange_35 : decode cX2_exchange 35 = .ok (.aload_n 0, 1) := by decide +kernel
theorem dX2_exchange_36 : decode cX2_exchange 36 = .ok (.getfield 9, 3) := by decide +kernel
theorem dX2_exchange_39 : decode cX2_exchange 39 = .ok (.iload_n 2, 1) := by decide +kernel
theorem dX2_exchange_40 : decode cX2_exchange 40 = .ok (.iload_n 3, 1) := by decide +kernel
theorem dX2_exchange_41 : decode cX2_exchange 41 = .ok (.iastore, 1) := by decide +kernel
theorem dX2_exchange_42 : decode cX2_exchange 42 = .ok (.return_, 1) := by decide +kernel
theorem dX2_copyFrom_0 : decode cX2_copyFrom 0 = .ok (.aload_n 0, 1) := by decide +kernel
theorem dX2_copyFrom_1 : decode cX2_copyFrom 1 = .ok (.aload_n 1, 1) := by decide +kernel
theorem dX2_copyFrom_2 : decode cX2_copyFrom 2 = .ok (.getfield 15, 3) := by decide +kernel
theorem dX2_copyFrom_5 : decode cX2_copyFrom 5 = .ok (.putfield 15, 3) := by decide +kernel
theorem dX2_copyFrom_8 : decode cX2_copyFrom 8 = .ok (.iconst 0, 1) := by decide +kernel
theorem dX2_copyFrom_9 : decode cX2_copyFrom 9 = .ok (.istore_n 2, 1) := by decide +kernel
theorem dX2_copyFrom_10 : decode cX2_copyFrom 10 = .ok (.iload_n 2, 1) := by decide +kernel
theorem dX2_copyFrom_11 : decode cX2_copyFrom 11 = .ok (.aload_n 0, 1) := by decide +kernel
theorem dX2_copyFrom_12 : decode cX2_copyFrom 12 = .ok (.getfield 15, 3) := by decide +kernel
theorem dX2_copyFrom_15 : decode cX2_copyFrom 15 = .ok (.if_icmp .ge 21, 3) := by decide +kernel
theorem dX2_copyFrom_18 : decode cX2_copyFrom 18 = .ok (.aload_n 0, 1) := by decide +kernel
theorem dX2_copyFrom_19 : decode cX2_copyFrom 19 = .ok (.getfield 9, 3) := by decide +kernel
theorem dX2_copyFrom_22 : decode cX2_copyFrom 22 = .ok (.iload_n 2, 1) := by decide +kernel
theorem dX2_copyFrom_23 : decode cX2_copyFrom 23 = .ok (.aload_n 1, 1) := by decide +kernel
theorem dX2_copyFrom_24 : decode cX2_copyFrom 24 = .ok (.getfield 9, 3) := by decide +kernel
theorem dX2_copyFrom_27 : decode cX2_copyFrom 27 = .ok (.iload_n 2, 1) := by decide +kernel
theorem dX2_copyFrom_28 : decode cX2_copyFrom 28 = .ok (.iaload, 1) := by decide +kernel
theorem dX2_copyFrom_29 : decode cX2_copyFrom 29 = .ok (.iastore, 1) := by decide +kernel
theorem dX2_copyFrom_30 : decode cX2_copyFrom 30 = .ok (.iinc 2 1, 3) := by decide +kernel
theorem dX2_copyFrom_33 : decode cX2_copyFrom 33 = .ok (.goto (-23), 3) := by decide +kernel
theorem dX2_copyFrom_36 : decode cX2_copyFrom 36 = .ok (.return_, 1) := by decide +kernel
theorem dX2_howMany_0 : decode cX2_howMany 0 = .ok (.iconst 0, 1) := by decide +kernel
theorem dX2_howMany_1 : decode cX2_howMany 1 = .ok (.istore_n 2, 1) := by decide +kernel
theorem dX2_howMany_2 : decode cX2_howMany 2 = .ok (.iconst 0, 1) := by decide +kernel
theorem dX2_howMany_3 : decode cX2_howMany 3 = .ok (.istore_n 3, 1) := by decide +kernel
theorem dX2_howMany_4 : decode cX2_howMany 4 = .ok (.iload_n 3, 1) := by decide +kernel
theorem dX2_howMany_5 : decode cX2_howMany 5 = .ok (.aload_n 0, 1) := by decide +kernel
theorem dX2_howMany_6 : decode cX2_howMany 6 = .ok (.getfield 15, 3) := by decide +kernel
theorem dX2_howMany_9 : decode cX2_howMany 9 = .ok (.if_icmp .ge 34, 3) := by decide +kernel
theorem dX2_howMany_12 : decode cX2_howMany 12 = .ok (.iload_n 2, 1) := by decide +kernel
theorem dX2_howMany_13 : decode cX2_howMany 13 = .ok (.aload_n 0, 1) := by decide +kernel
theorem dX2_howMany_14 : decode cX2_howMany 14 = .ok (.getfield 19, 3) := by decide +kernel
theorem dX2_howMany_17 : decode cX2_howMany 17 = .ok (.aload_n 0, 1) := by decide +kernel
theorem dX2_howMany_18 : decode cX2_howMany 18 = .ok (.getfield 9, 3) := by decide +kernel
theorem dX2_howMany_21 : decode cX2_howMany 21 = .ok (.iload_n 3, 1) := by decide +kernel
theorem dX2_howMany_22 : decode cX2_howMany 22 = .ok (.iaload, 1) := by decide +kernel
theorem dX2_howMany_23 : decode cX2_howMany 23 = .ok (.iload_n 1, 1) := by decide +kernel
theorem dX2_howMany_24 : decode cX2_howMany 24 = .ok (.invokevirtual 31, 3) := by decide +kernel
theorem dX2_howMany_27 : decode cX2_howMany 27 = .ok (.ifCond .eq 7, 3) := by decide +kernel
theorem dX2_howMany_30 : decode cX2_howMany 30 = .ok (.iconst 1, 1) := by decide +kernel
theorem dX2_howMany_31 : decode cX2_howMany 31 = .ok (.goto 4, 3) := by decide +kernel
theorem dX2_howMany_34 : decode cX2_howMany 34 = .ok (.iconst 0, 1) := by decide +kernel
theorem dX2_howMany_35 : decode cX2_howMany 35 = .ok (.iadd, 1) := by decide +kernel
theorem dX2_howMany_36 : decode cX2_howMany 36 = .ok (.istore_n 2, 1) := by decide +kernel
theorem dX2_howMany_37 : decode cX2_howMany 37 = .ok (.iinc 3 1, 3) := by decide +kernel
theorem dX2_howMany_40 : decode cX2_howMany 40 = .ok (.goto (-36), 3) := by decide +kernel
theorem dX2_howMany_43 : decode cX2_howMany 43 = .ok (.iload_n 2, 1) := by decide +kernel
theorem dX2_howMany_44 : decode cX2_howMany 44 = .ok (.ireturn, 1) := by decide +kernel
theorem dX2_joins_0 : decode cX2_joins 0 = .ok (.iconst 0, 1) := by decide +kernel
theorem dX2_joins_1 : decode cX2_joins 1 = .ok (.istore_n 1, 1) := by decide +kernel
theorem dX2_joins_2 : decode cX2_joins 2 = .ok (.iconst 0, 1) := by decide +kernel
theorem dX2_joins_3 : decode cX2_joins 3 = .ok (.istore_n 2, 1) := by decide +kernel
theorem dX2_joins_4 : decode cX2_joins 4 = .ok (.iload_n 2, 1) := by decide +kernel
theorem dX2_joins_5 : decode cX2_joins 5 = .ok (.aload_n 0, 1) := by decide +kernel
theorem dX2_joins_6 : decode cX2_joins 6 = .ok (.getfield 15, 3) := by decide +kernel
theorem dX2_joins_9 : decode cX2_joins 9 = .ok (.if_icmp .ge 25, 3) := by decide +kernel
theorem dX2_joins_12 : decode cX2_joins 12 = .ok (.iload_n 1, 1) := by decide +kernel
theorem dX2_joins_13 : decode cX2_joins 13 = .ok (.aload_n 0, 1) := by decide +kernel
theorem dX2_joins_14 : decode cX2_joins 14 = .ok (.iload_n 2, 1) := by decide +kernel
theorem dX2_joins_15 : decode cX2_joins 15 = .ok (.invokevirtual 37, 3) := by decide +kernel
theorem dX2_joins_18 : decode cX2_joins 18 = .ok (.ifCond .le 7, 3) := by decide +kernel
theorem dX2_joins_21 : decode cX2_joins 21 = .ok (.iconst 1, 1) := by decide +kernel
theorem dX2_joins_22 : decode cX2_joins 22 = .ok (.goto 4, 3) := by decide +kernel
theorem dX2_joins_25 : decode cX2_joins 25 = .ok (.iconst 0, 1) := by decide +kernel
theorem dX2_joins_26 : decode cX2_joins 26 = .ok (.iadd, 1) := by decide +kernel
theorem dX2_joins_27 : decode cX2_joins 27 = .ok (.istore_n 1, 1) := by decide +kernel
theorem dX2_joins_28 : decode cX2_joins 28 = .ok (.iinc 2 1, 3) := by decide +kernel
theorem dX2_joins_31 : decode cX2_joins 31 = .ok (.goto (-27), 3) := by decide +kernel
theorem dX2_joins_34 : decode cX2_joins 34 = .ok (.iload_n 1, 1) := by decide +kernel
theorem dX2_joins_35 : decode cX2_joins 35 = .ok (.ireturn, 1) := by decide +kernel
theorem dX2_joinWorth_0 : decode cX2_joinWorth 0 = .ok (.aload_n 0, 1) := by decide +kernel
theorem dX2_joinWorth_1 : decode cX2_joinWorth 1 = .ok (.iload_n 1, 1) := by decide +kernel
theorem dX2_joinWorth_2 : decode cX2_joinWorth 2 = .ok (.invokevirtual 40, 3) := by decide +kernel
theorem dX2_joinWorth_5 : decode cX2_joinWorth 5 = .ok (.istore_n 2, 1) := by decide +kernel
theorem dX2_joinWorth_6 : decode cX2_joinWorth 6 = .ok (.aload_n 0, 1) := by decide +kernel
theorem dX2_joinWorth_7 : decode cX2_joinWorth 7 = .ok (.iload_n 1, 1) := by decide +kernel
theorem dX2_joinWorth_8 : decode cX2_joinWorth 8 = .ok (.iconst 1, 1) := by decide +kernel
theorem dX2_joinWorth_9 : decode cX2_joinWorth 9 = .ok (.iadd, 1) := by decide +kernel
theorem dX2_joinWorth_10 : decode cX2_joinWorth 10 = .ok (.invokevirtual 40, 3) := by decide +kernel
theorem dX2_joinWorth_13 : decode cX2_joinWorth 13 = .ok (.istore_n 3, 1) := by decide +kernel
theorem dX2_joinWorth_14 : decode cX2_joinWorth 14 = .ok (.aload_n 0, 1) := by decide +kernel
theorem dX2_joinWorth_15 : decode cX2_joinWorth 15 = .ok (.getfield 19, 3) := by decide +kernel
theorem dX2_joinWorth_18 : decode cX2_joinWorth 18 = .ok (.iload_n 2, 1) := by decide +kernel
theorem dX2_joinWorth_19 : decode cX2_joinWorth 19 = .ok (.iconst 1, 1) := by decide +kernel
theorem dX2_joinWorth_20 : decode cX2_joinWorth 20 = .ok (.invokevirtual 31, 3) := by decide +kernel
theorem dX2_joinWorth_23 : decode cX2_joinWorth 23 = .ok (.ifCond .eq 27, 3) := by decide +kernel
theorem dX2_joinWorth_26 : decode cX2_joinWorth 26 = .ok (.aload_n 0, 1) := by decide +kernel
theorem dX2_joinWorth_27 : decode cX2_joinWorth 27 = .ok (.getfield 19, 3) := by decide +kernel
theorem dX2_joinWorth_30 : decode cX2_joinWorth 30 = .ok (.iload_n 3, 1) := by decide +kernel
theorem dX2_joinWorth_31 : decode cX2_joinWorth 31 = .ok (.iconst 1, 1) := by decide +kernel
theorem dX2_joinWorth_32 : decode cX2_joinWorth 32 = .ok (.invokevirtual 31, 3) := by decide +kernel
theorem dX2_joinWorth_35 : decode cX2_joinWorth 35 = .ok (.ifCond .ne 17, 3) := by decide +kernel
theorem dX2_joinWorth_38 : decode cX2_joinWorth 38 = .ok (.aload_n 0, 1) := by decide +kernel
theorem dX2_joinWorth_39 : decode cX2_joinWorth 39 = .ok (.getfield 19, 3) := by decide +kernel
theorem dX2_joinWorth_42 : decode cX2_joinWorth 42 = .ok (.iload_n 3, 1) := by decide +kernel
theorem dX2_joinWorth_43 : decode cX2_joinWorth 43 = .ok (.iconst 2, 1) := by decide +kernel
theorem dX2_joinWorth_44 : decode cX2_joinWorth 44 = .ok (.invokevirtual 31, 3) := by decide +kernel
theorem dX2_joinWorth_47 : decode cX2_joinWorth 47 = .ok (.ifCond .ne 5, 3) := by decide +kernel
theorem dX2_joinWorth_50 : decode cX2_joinWorth 50 = .ok (.iconst 0, 1) := by decide +kernel
theorem dX2_joinWorth_51 : decode cX2_joinWorth 51 = .ok (.ireturn, 1) := by decide +kernel
theorem dX2_joinWorth_52 : decode cX2_joinWorth 52 = .ok (.aload_n 0, 1) := by decide +kernel
theorem dX2_joinWorth_53 : decode cX2_joinWorth 53 = .ok (.getfield 19, 3) := by decide +kernel
theorem dX2_joinWorth_56 : decode cX2_joinWorth 56 = .ok (.iload_n 2, 1) := by decide +kernel
theorem dX2_joinWorth_57 : decode cX2_joinWorth 57 = .ok (.iconst 4, 1) := by decide +kernel
theorem dX2_joinWorth_58 : decode cX2_joinWorth 58 = .ok (.invokevirtual 31, 3) := by decide +kernel
theorem dX2_joinWorth_61 : decode cX2_joinWorth 61 = .ok (.ifCond .eq 7, 3) := by decide +kernel
theorem dX2_joinWorth_64 : decode cX2_joinWorth 64 = .ok (.iconst 3, 1) := by decide +kernel
theorem dX2_joinWorth_65 : decode cX2_joinWorth 65 = .ok (.goto 4, 3) := by decide +kernel
theorem dX2_joinWorth_68 : decode cX2_joinWorth 68 = .ok (.iconst 2, 1) := by decide +kernel
theorem dX2_joinWorth_69 : decode cX2_joinWorth 69 = .ok (.ireturn, 1) := by decide +kernel
theorem dX2_lackingPenalty_0 : decode cX2_lackingPenalty 0 = .ok (.aload_n 0, 1) := by decide +kernel
theorem dX2_lackingPenalty_1 : decode cX2_lackingPenalty 1 = .ok (.iconst 1, 1) := by decide +kernel
theorem dX2_lackingPenalty_2 : decode cX2_lackingPenalty 2 = .ok (.invokevirtual 43, 3) := by decide +kernel
theorem dX2_lackingPenalty_5 : decode cX2_lackingPenalty 5 = .ok (.ifCond .ne 7, 3) := by decide +kernel
theorem dX2_lackingPenalty_8 : decode cX2_lackingPenalty 8 = .ok (.iconst 5, 1) := by decide +kernel
theorem dX2_lackingPenalty_9 : decode cX2_lackingPenalty 9 = .ok (.goto 4, 3) := by decide +kernel
theorem dX2_lackingPenalty_12 : decode cX2_lackingPenalty 12 = .ok (.iconst 0, 1) := by decide +kernel
theorem dX2_lackingPenalty_13 : decode cX2_lackingPenalty 13 = .ok (.aload_n 0, 1) := by decide +kernel
theorem dX2_lackingPenalty_14 : decode cX2_lackingPenalty 14 = .ok (.iconst 2, 1) := by decide +kernel
theorem dX2_lackingPenalty_15 : decode cX2_lackingPenalty 15 = .ok (.invokevirtual 43, 3) := by decide +kernel
theorem dX2_lackingPenalty_18 : decode cX2_lackingPenalty 18 = .ok (.ifCond .ne 7, 3) := by decide +kernel
theorem dX2_lackingPenalty_21 : decode cX2_lackingPenalty 21 = .ok (.iconst 5, 1) := by decide +kernel
theorem dX2_lackingPenalty_22 : decode cX2_lackingPenalty 22 = .ok (.goto 4, 3) := by decide +kernel
theorem dX2_lackingPenalty_25 : decode cX2_lackingPenalty 25 = .ok (.iconst 0, 1) := by decide +kernel
theorem dX2_lackingPenalty_26 : decode cX2_lackingPenalty 26 = .ok (.iadd, 1) := by decide +kernel
theorem dX2_lackingPenalty_27 : decode cX2_lackingPenalty 27 = .ok (.ireturn, 1) := by decide +kernel
theorem dX2_chanceAt_0 : decode cX2_chanceAt 0 = .ok (.aload_n 0, 1) := by decide +kernel
theorem dX2_chanceAt_1 : decode cX2_chanceAt 1 = .ok (.iload_n 1, 1) := by decide +kernel
theorem dX2_chanceAt_2 : decode cX2_chanceAt 2 = .ok (.invokevirtual 40, 3) := by decide +kernel
theorem dX2_chanceAt_5 : decode cX2_chanceAt 5 = .ok (.istore_n 2, 1) := by decide +kernel
theorem dX2_chanceAt_6 : decode cX2_chanceAt 6 = .ok (.aload_n 0, 1) := by decide +kernel
theorem dX2_chanceAt_7 : decode cX2_chanceAt 7 = .ok (.getfield 19, 3) := by decide +kernel
theorem dX2_chanceAt_10 : decode cX2_chanceAt 10 = .ok (.iload_n 2, 1) := by decide +kernel
theorem dX2_chanceAt_11 : decode cX2_chanceAt 11 = .ok (.invokevirtual 46, 3) := by decide +kernel
theorem dX2_chanceAt_14 : decode cX2_chanceAt 14 = .ok (.aload_n 0, 1) := by decide +kernel
theorem dX2_chanceAt_15 : decode cX2_chanceAt 15 = .ok (.getfield 19, 3) := by decide +kernel
theorem dX2_chanceAt_18 : decode cX2_chanceAt 18 = .ok (.iload_n 2, 1) := by decide +kernel
theorem dX2_chanceAt_19 : decode cX2_chanceAt 19 = .ok (.invokevirtual 49, 3) := by decide +kernel
theorem dX2_chanceAt_22 : decode cX2_chanceAt 22 = .ok (.iload_n 1, 1) := by decide +kernel
theorem dX2_chanceAt_23 : decode cX2_chanceAt 23 = .ok (.invokestatic 52, 3) := by decide +kernel
theorem dX2_chanceAt_26 : decode cX2_chanceAt 26 = .ok (.ireturn, 1) := by decide +kernel
theorem dX2_points_0 : decode cX2_points 0 = .ok (.aload_n 0, 1) := by decide +kernel
theorem dX2_points_1 : decode cX2_points 1 = .ok (.iload_n 1, 1) := by decide +kernel
theorem dX2_points_2 : decode cX2_points 2 = .ok (.invokevirtual 56, 3) := by decide +kernel
theorem dX2_points_5 : decode cX2_points 5 = .ok (.aload_n 0, 1) := by decide +kernel
theorem dX2_points_6 : decode cX2_points 6 = .ok (.invokevirtual 59, 3) := by decide +kernel
theorem dX2_points_9 : decode cX2_points 9 = .ok (.isub, 1) := by decide +kernel
theorem dX2_points_10 : decode cX2_points 10 = .ok (.ireturn, 1) := by decide +kernel
theorem dX2_gained_0 : decode cX2_gained 0 = .ok (.iconst 0, 1) := by decide +kernel
theorem dX2_gained_1 : decode cX2_gained 1 = .ok (.istore_n 2, 1) := by decide +kernel
theorem dX2_gained_2 : decode cX2_gained 2 = .ok (.iconst 0, 1) := by decide +kernel
theorem dX2_gained_3 : decode cX2_gained 3 = .ok (.istore_n 3, 1) := by decide +kernel
theorem dX2_gained_4 : decode cX2_gained 4 = .ok (.iload_n 3, 1) := by decide +kernel
theorem dX2_gained_5 : decode cX2_gained 5 = .ok (.aload_n 0, 1) := by decide +kernel
theorem dX2_gained_6 : decode cX2_gained 6 = .ok (.getfield 15, 3) := by decide +kernel
theorem dX2_gained_9 : decode cX2_gained 9 = .ok (.if_icmp .ge 55, 3) := by decide +kernel
theorem dX2_gained_12 : decode cX2_gained 12 = .ok (.iload_n 1, 1) := by decide +kernel
theorem dX2_gained_13 : decode cX2_gained 13 = .ok (.iload_n 3, 1) := by decide +kernel
theorem dX2_gained_14 : decode cX2_gained 14 = .ok (.ishr, 1) := by decide +kernel
theorem dX2_gained_15 : decode cX2_gained 15 = .ok (.iconst 1, 1) := by decide +kernel
theorem dX2_gained_16 : decode cX2_gained 16 = .ok (.iand, 1) := by decide +kernel
theorem dX2_gained_17 : decode cX2_gained 17 = .ok (.ifCond .eq 9, 3) := by decide +kernel
theorem dX2_gained_20 : decode cX2_gained 20 = .ok (.iinc 2 (-10), 3) := by decide +kernel
theorem dX2_gained_23 : decode cX2_gained 23 = .ok (.goto 19, 3) := by decide +kernel
theorem dX2_gained_26 : decode cX2_gained 26 = .ok (.iload_n 2, 1) := by decide +kernel
theorem dX2_gained_27 : decode cX2_gained 27 = .ok (.aload_n 0, 1) := by decide +kernel
theorem dX2_gained_28 : decode cX2_gained 28 = .ok (.getfield 19, 3) := by decide +kernel
theorem dX2_gained_31 : decode cX2_gained 31 = .ok (.aload_n 0, 1) := by decide +kernel
theorem dX2_gained_32 : decode cX2_gained 32 = .ok (.getfield 9, 3) := by decide +kernel
theorem dX2_gained_35 : decode cX2_gained 35 = .ok (.iload_n 3, 1) := by decide +kernel
theorem dX2_gained_36 : decode cX2_gained 36 = .ok (.iaload, 1) := by decide +kernel
theorem dX2_gained_37 : decode cX2_gained 37 = .ok (.invokevirtual 63, 3) := by decide +kernel
theorem dX2_gained_40 : decode cX2_gained 40 = .ok (.iadd, 1) := by decide +kernel
theorem dX2_gained_41 : decode cX2_gained 41 = .ok (.istore_n 2, 1) := by decide +kernel
theorem dX2_gained_42 : decode cX2_gained 42 = .ok (.iload_n 1, 1) := by decide +kernel
theorem dX2_gained_43 : decode cX2_gained 43 = .ok (.iload_n 3, 1) := by decide +kernel
theorem dX2_gained_44 : decode cX2_gained 44 = .ok (.ishr, 1) := by decide +kernel
theorem dX2_gained_45 : decode cX2_gained 45 = .ok (.iconst 3, 1) := by decide +kernel
theorem dX2_gained_46 : decode cX2_gained 46 = .ok (.iand, 1) := by decide +kernel
theorem dX2_gained_47 : decode cX2_gained 47 = .ok (.ifCond .ne 11, 3) := by decide +kernel
theorem dX2_gained_50 : decode cX2_gained 50 = .ok (.iload_n 2, 1) := by decide +kernel
theorem dX2_gained_51 : decode cX2_gained 51 = .ok (.aload_n 0, 1) := by decide +kernel
theorem dX2_gained_52 : decode cX2_gained 52 = .ok (.iload_n 3, 1) := by decide +kernel
theorem dX2_gained_53 : decode cX2_gained 53 = .ok (.invokevirtual 37, 3) := by decide +kernel
theorem dX2_gained_56 : decode cX2_gained 56 = .ok (.iadd, 1) := by decide +kernel
theorem dX2_gained_57 : decode cX2_gained 57 = .ok (.istore_n 2, 1) := by decide +kernel
theorem dX2_gained_58 : decode cX2_gained 58 = .ok (.iinc 3 1, 3) := by decide +kernel
theorem dX2_gained_61 : decode cX2_gained 61 = .ok (.goto (-57), 3) := by decide +kernel
theorem dX2_gained_64 : decode cX2_gained 64 = .ok (.iload_n 2, 1) := by decide +kernel
theorem dX2_gained_65 : decode cX2_gained 65 = .ok (.ireturn, 1) := by decide +kernel
theorem dX2_meanInHundredths_0 : decode cX2_meanInHundredths 0 = .ok (.bipush 100, 2) := by decide +kernel
theorem dX2_meanInHundredths_2 : decode cX2_meanInHundredths 2 = .ok (.sipush 200, 3) := by decide +kernel
theorem dX2_meanInHundredths_5 : decode cX2_meanInHundredths 5 = .ok (.aload_n 0, 1) := by decide +kernel
theorem dX2_meanInHundredths_6 : decode cX2_meanInHundredths 6 = .ok (.invokevirtual 59, 3) := by decide +kernel
theorem dX2_meanInHundredths_9 : decode cX2_meanInHundredths 9 = .ok (.isub, 1) := by decide +kernel
theorem dX2_meanInHundredths_10 : decode cX2_meanInHundredths 10 = .ok (.imul, 1) := by decide +kernel
theorem dX2_meanInHundredths_11 : decode cX2_meanInHundredths 11 = .ok (.istore_n 1, 1) := by decide +kernel
theorem dX2_meanInHundredths_12 : decode cX2_meanInHundredths 12 = .ok (.iconst 0, 1) := by decide +kernel
theorem dX2_meanInHundredths_13 : decode cX2_meanInHundredths 13 = .ok (.istore_n 2, 1) := by decide +kernel
theorem dX2_meanInHundredths_14 : decode cX2_meanInHundredths 14 = .ok (.iload_n 2, 1) := by decide +kernel
theorem dX2_meanInHundredths_15 : decode cX2_meanInHundredths 15 = .ok (.aload_n 0, 1) := by decide +kernel
theorem dX2_meanInHundredths_16 : decode cX2_meanInHundredths 16 = .ok (.getfield 15, 3) := by decide +kernel
theorem dX2_meanInHundredths_19 : decode cX2_meanInHundredths 19 = .ok (.if_icmp .ge 62, 3) := by decide +kernel
theorem dX2_meanInHundredths_22 : decode cX2_meanInHundredths 22 = .ok (.aload_n 0, 1) := by decide +kernel
theorem dX2_meanInHundredths_23 : decode cX2_meanInHundredths 23 = .ok (.iload_n 2, 1) := by decide +kernel
theorem dX2_meanInHundredths_24 : decode cX2_meanInHundredths 24 = .ok (.invokevirtual 66, 3) := by decide +kernel
theorem dX2_meanInHundredths_27 : decode cX2_meanInHundredths 27 = .ok (.istore_n 3, 1) := by decide +kernel
theorem dX2_meanInHundredths_28 : decode cX2_meanInHundredths 28 = .ok (.iload_n 1, 1) := by decide +kernel
theorem dX2_meanInHundredths_29 : decode cX2_meanInHundredths 29 = .ok (.bipush 10, 2) := by decide +kernel
theorem dX2_meanInHundredths_31 : decode cX2_meanInHundredths 31 = .ok (.iload_n 3, 1) := by decide +kernel
theorem dX2_meanInHundredths_32 : decode cX2_meanInHundredths 32 = .ok (.aload_n 0, 1) := by decide +kernel
theorem dX2_meanInHundredths_33 : decode cX2_meanInHundredths 33 = .ok (.getfield 19, 3) := by decide +kernel
theorem dX2_meanInHundredths_36 : decode cX2_meanInHundredths 36 = .ok (.aload_n 0, 1) := by decide +kernel
theorem dX2_meanInHundredths_37 : decode cX2_meanInHundredths 37 = .ok (.getfield 9, 3) := by decide +kernel
theorem dX2_meanInHundredths_40 : decode cX2_meanInHundredths 40 = .ok (.iload_n 2, 1) := by decide +kernel
theorem dX2_meanInHundredths_41 : decode cX2_meanInHundredths 41 = .ok (.iaload, 1) := by decide +kernel
theorem dX2_meanInHundredths_42 : decode cX2_meanInHundredths 42 = .ok (.invokevirtual 63, 3) := by decide +kernel
theorem dX2_meanInHundredths_45 : decode cX2_meanInHundredths 45 = .ok (.imul, 1) := by decide +kernel
theorem dX2_meanInHundredths_46 : decode cX2_meanInHundredths 46 = .ok (.bipush 10, 2) := by decide +kernel
theorem dX2_meanInHundredths_48 : decode cX2_meanInHundredths 48 = .ok (.bipush 10, 2) := by decide +kernel
theorem dX2_meanInHundredths_50 : decode cX2_meanInHundredths 50 = .ok (.iload_n 3, 1) := by decide +kernel
theorem dX2_meanInHundredths_51 : decode cX2_meanInHundredths 51 = .ok (.isub, 1) := by decide +kernel
theorem dX2_meanInHundredths_52 : decode cX2_meanInHundredths 52 = .ok (.imul, 1) := by decide +kernel
theorem dX2_meanInHundredths_53 : decode cX2_meanInHundredths 53 = .ok (.isub, 1) := by decide +kernel
theorem dX2_meanInHundredths_54 : decode cX2_meanInHundredths 54 = .ok (.imul, 1) := by decide +kernel
theorem dX2_meanInHundredths_55 : decode cX2_meanInHundredths 55 = .ok (.iadd, 1) := by decide +kernel
theorem dX2_meanInHundredths_56 : decode cX2_meanInHundredths 56 = .ok (.istore_n 1, 1) := by decide +kernel
theorem dX2_meanInHundredths_57 : decode cX2_meanInHundredths 57 = .ok (.iload_n 1, 1) := by decide +kernel
theorem dX2_meanInHundredths_58 : decode cX2_meanInHundredths 58 = .ok (.iload_n 3, 1) := by decide +kernel
theorem dX2_meanInHundredths_59 : decode cX2_meanInHundredths 59 = .ok (.aload_n 0, 1) := by decide +kernel
theorem dX2_meanInHundredths_60 : decode cX2_meanInHundredths 60 = .ok (.iload_n 2, 1) := by decide +kernel
theorem dX2_meanInHundredths_61 : decode cX2_meanInHundredths 61 = .ok (.iconst 1, 1) := by decide +kernel
theorem dX2_meanInHundredths_62 : decode cX2_meanInHundredths 62 = .ok (.iadd, 1) := by decide +kernel
theorem dX2_meanInHundredths_63 : decode cX2_meanInHundredths 63 = .ok (.invokevirtual 66, 3) := by decide +kernel
theorem dX2_meanInHundredths_66 : decode cX2_meanInHundredths 66 = .ok (.imul, 1) := by decide +kernel
theorem dX2_meanInHundredths_67 : decode cX2_meanInHundredths 67 = .ok (.aload_n 0, 1) := by decide +kernel
theorem dX2_meanInHundredths_68 : decode cX2_meanInHundredths 68 = .ok (.iload_n 2, 1) := by decide +kernel
theorem dX2_meanInHundredths_69 : decode cX2_meanInHundredths 69 = .ok (.invokevirtual 37, 3) := by decide +kernel
theorem dX2_meanInHundredths_72 : decode cX2_meanInHundredths 72 = .ok (.imul, 1) := by decide +kernel
theorem dX2_meanInHundredths_73 : decode cX2_meanInHundredths 73 = .ok (.iadd, 1) := by decide +kernel
theorem dX2_meanInHundredths_74 : decode cX2_meanInHundredths 74 = .ok (.istore_n 1, 1) := by decide +kernel
theorem dX2_meanInHundredths_75 : decode cX2_meanInHundredths 75 = .ok (.iinc 2 1, 3) := by decide +kernel
theorem dX2_meanInHundredths_78 : decode cX2_meanInHundredths 78 = .ok (.goto (-64), 3) := by decide +kernel
theorem dX2_meanInHundredths_81 : decode cX2_meanInHundredths 81 = .ok (.iload_n 1, 1) := by decide +kernel
theorem dX2_meanInHundredths_82 : decode cX2_meanInHundredths 82 = .ok (.ireturn, 1) := by decide +kernel
theorem dX2_allParts_0 : decode cX2_allParts 0 = .ok (.iconst 1, 1) := by decide +kernel
theorem dX2_allParts_1 : decode cX2_allParts 1 = .ok (.istore_n 1, 1) := by decide +kernel
theorem dX2_allParts_2 : decode cX2_allParts 2 = .ok (.iconst 0, 1) := by decide +kernel
theorem dX2_allParts_3 : decode cX2_allParts 3 = .ok (.istore_n 2, 1) := by decide +kernel
theorem dX2_allParts_4 : decode cX2_allParts 4 = .ok (.iload_n 2, 1) := by decide +kernel
theorem dX2_allParts_5 : decode cX2_allParts 5 = .ok (.aload_n 0, 1) := by decide +kernel
theorem dX2_allParts_6 : decode cX2_allParts 6 = .ok (.getfield 15, 3) := by decide +kernel
theorem dX2_allParts_9 : decode cX2_allParts 9 = .ok (.if_icmp .ge 14, 3) := by decide +kernel
theorem dX2_allParts_12 : decode cX2_allParts 12 = .ok (.iload_n 1, 1) := by decide +kernel
theorem dX2_allParts_13 : decode cX2_allParts 13 = .ok (.bipush 10, 2) := by decide +kernel
theorem dX2_allParts_15 : decode cX2_allParts 15 = .ok (.imul, 1) := by decide +kernel
theorem dX2_allParts_16 : decode cX2_allParts 16 = .ok (.istore_n 1, 1) := by decide +kernel
theorem dX2_allParts_17 : decode cX2_allParts 17 = .ok (.iinc 2 1, 3) := by decide +kernel
theorem dX2_allParts_20 : decode cX2_allParts 20 = .ok (.goto (-16), 3) := by decide +kernel
theorem dX2_allParts_23 : decode cX2_allParts 23 = .ok (.iload_n 1, 1) := by decide +kernel
theorem dX2_allParts_24 : decode cX2_allParts 24 = .ok (.ireturn, 1) := by decide +kernel
theorem dX2_partsWith_0 : decode cX2_partsWith 0 = .ok (.iconst 0, 1) := by decide +kernel
theorem dX2_partsWith_1 : decode cX2_partsWith 1 = .ok (.istore_n 2, 1) := by decide +kernel
theorem dX2_partsWith_2 : decode cX2_partsWith 2 = .ok (.iload_n 1, 1) := by decide +kernel
theorem dX2_partsWith_3 : decode cX2_partsWith 3 = .ok (.aload_n 0, 1) := by decide +kernel
theorem dX2_partsWith_4 : decode cX2_partsWith 4 = .ok (.invokevirtual 59, 3) := by decide +kernel
theorem dX2_partsWith_7 : decode cX2_partsWith 7 = .ok (.iadd, 1) := by decide +kernel
theorem dX2_partsWith_8 : decode cX2_partsWith 8 = .ok (.istore_n 3, 1) := by decide +kernel
theorem dX2_partsWith_9 : decode cX2_partsWith 9 = .ok (.iconst 0, 1) := by decide +kernel
theorem dX2_partsWith_10 : decode cX2_partsWith 10 = .ok (.istore 4, 2) := by decide +kernel
theorem dX2_partsWith_12 : decode cX2_partsWith 12 = .ok (.iload 4, 2) := by decide +kernel
theorem dX2_partsWith_14 : decode cX2_partsWith 14 = .ok (.iconst 1, 1) := by decide +kernel
theorem dX2_partsWith_15 : decode cX2_partsWith 15 = .ok (.aload_n 0, 1) := by decide +kernel
theorem dX2_partsWith_16 : decode cX2_partsWith 16 = .ok (.getfield 15, 3) := by decide +kernel
theorem dX2_partsWith_19 : decode cX2_partsWith 19 = .ok (.ishl, 1) := by decide +kernel
theorem dX2_partsWith_20 : decode cX2_partsWith 20 = .ok (.if_icmp .ge 28, 3) := by decide +kernel
theorem dX2_partsWith_23 : decode cX2_partsWith 23 = .ok (.aload_n 0, 1) := by decide +kernel
theorem dX2_partsWith_24 : decode cX2_partsWith 24 = .ok (.iload 4, 2) := by decide +kernel
theorem dX2_partsWith_26 : decode cX2_partsWith 26 = .ok (.invokevirtual 56, 3) := by decide +kernel
theorem dX2_partsWith_29 : decode cX2_partsWith 29 = .ok (.iload_n 3, 1) := by decide +kernel
theorem dX2_partsWith_30 : decode cX2_partsWith 30 = .ok (.if_icmp .lt 12, 3) := by decide +kernel
theorem dX2_partsWith_33 : decode cX2_partsWith 33 = .ok (.iload_n 2, 1) := by decide +kernel
theorem dX2_partsWith_34 : decode cX2_partsWith 34 = .ok (.aload_n 0, 1) := by decide +kernel
theorem dX2_partsWith_35 : decode cX2_partsWith 35 = .ok (.iload 4, 2) := by decide +kernel
theorem dX2_partsWith_37 : decode cX2_partsWith 37 = .ok (.invokevirtual 69, 3) := by decide +kernel
theorem dX2_partsWith_40 : decode cX2_partsWith 40 = .ok (.iadd, 1) := by decide +kernel
theorem dX2_partsWith_41 : decode cX2_partsWith 41 = .ok (.istore_n 2, 1) := by decide +kernel
theorem dX2_partsWith_42 : decode cX2_partsWith 42 = .ok (.iinc 4 1, 3) := by decide +kernel
theorem dX2_partsWith_45 : decode cX2_partsWith 45 = .ok (.goto (-33), 3) := by decide +kernel
theorem dX2_partsWith_48 : decode cX2_partsWith 48 = .ok (.iload_n 2, 1) := by decide +kernel
theorem dX2_partsWith_49 : decode cX2_partsWith 49 = .ok (.ireturn, 1) := by decide +kernel
theorem dX2_partsOf_0 : decode cX2_partsOf 0 = .ok (.iconst 1, 1) := by decide +kernel
theorem dX2_partsOf_1 : decode cX2_partsOf 1 = .ok (.istore_n 2, 1) := by decide +kernel
theorem dX2_partsOf_2 : decode cX2_partsOf 2 = .ok (.iconst 0, 1) := by decide +kernel
theorem dX2_partsOf_3 : decode cX2_partsOf 3 = .ok (.istore_n 3, 1) := by decide +kernel
theorem dX2_partsOf_4 : decode cX2_partsOf 4 = .ok (.iload_n 3, 1) := by decide +kernel
theorem dX2_partsOf_5 : decode cX2_partsOf 5 = .ok (.aload_n 0, 1) := by decide +kernel
theorem dX2_partsOf_6 : decode cX2_partsOf 6 = .ok (.getfield 15, 3) := by decide +kernel
theorem dX2_partsOf_9 : decode cX2_partsOf 9 = .ok (.if_icmp .ge 37, 3) := by decide +kernel
theorem dX2_partsOf_12 : decode cX2_partsOf 12 = .ok (.aload_n 0, 1) := by decide +kernel
theorem dX2_partsOf_13 : decode cX2_partsOf 13 = .ok (.iload_n 3, 1) := by decide +kernel
theorem dX2_partsOf_14 : decode cX2_partsOf 14 = .ok (.invokevirtual 66, 3) := by decide +kernel
theorem dX2_partsOf_17 : decode cX2_partsOf 17 = .ok (.istore 4, 2) := by decide +kernel
theorem dX2_partsOf_19 : decode cX2_partsOf 19 = .ok (.iload_n 2, 1) := by decide +kernel
theorem dX2_partsOf_20 : decode cX2_partsOf 20 = .ok (.iload_n 1, 1) := by decide +kernel
theorem dX2_partsOf_21 : decode cX2_partsOf 21 = .ok (.iload_n 3, 1) := by decide +kernel
theorem dX2_partsOf_22 : decode cX2_partsOf 22 = .ok (.ishr, 1) := by decide +kernel
theorem dX2_partsOf_23 : decode cX2_partsOf 23 = .ok (.iconst 1, 1) := by decide +kernel
theorem dX2_partsOf_24 : decode cX2_partsOf 24 = .ok (.iand, 1) := by decide +kernel
theorem dX2_partsOf_25 : decode cX2_partsOf 25 = .ok (.ifCond .eq 11, 3) := by decide +kernel
theorem dX2_partsOf_28 : decode cX2_partsOf 28 = .ok (.bipush 10, 2) := by decide +kernel
theorem dX2_partsOf_30 : decode cX2_partsOf 30 = .ok (.iload 4, 2) := by decide +kernel
theorem dX2_partsOf_32 : decode cX2_partsOf 32 = .ok (.isub, 1) := by decide +kernel
theorem dX2_partsOf_33 : decode cX2_partsOf 33 = .ok (.goto 5, 3) := by decide +kernel
theorem dX2_partsOf_36 : decode cX2_partsOf 36 = .ok (.iload 4, 2) := by decide +kernel
theorem dX2_partsOf_38 : decode cX2_partsOf 38 = .ok (.imul, 1) := by decide +kernel
theorem dX2_partsOf_39 : decode cX2_partsOf 39 = .ok (.istore_n 2, 1) := by decide +kernel
theorem dX2_partsOf_40 : decode cX2_partsOf 40 = .ok (.iinc 3 1, 3) := by decide +kernel
theorem dX2_partsOf_43 : decode cX2_partsOf 43 = .ok (.goto (-39), 3) := by decide +kernel
theorem dX2_partsOf_46 : decode cX2_partsOf 46 = .ok (.iload_n 2, 1) := by decide +kernel
theorem dX2_partsOf_47 : decode cX2_partsOf 47 = .ok (.ireturn, 1) := by decide +kernel
theorem dX3_init_0 : decode cX3_init 0 = .ok (.aload_n 0, 1) := by decide +kernel
theorem dX3_init_1 : decode cX3_init 1 = .ok (.invokespecial 3, 3) := by decide +kernel
theorem dX3_init_4 : decode cX3_init 4 = .ok (.aload_n 0, 1) := by decide +kernel
theorem dX3_init_5 : decode cX3_init 5 = .ok (.bipush 8, 2) := by decide +kernel
theorem dX3_init_7 : decode cX3_init 7 = .ok (.newarray .int, 2) := by decide +kernel
theorem dX3_init_9 : decode cX3_init 9 = .ok (.putfield 9, 3) := by decide +kernel
theorem dX3_init_12 : decode cX3_init 12 = .ok (.aload_n 0, 1) := by decide +kernel
theorem dX3_init_13 : decode cX3_init 13 = .ok (.bipush 8, 2) := by decide +kernel
theorem dX3_init_15 : decode cX3_init 15 = .ok (.newarray .int, 2) := by decide +kernel
theorem dX3_init_17 : decode cX3_init 17 = .ok (.putfield 15, 3) := by decide +kernel
theorem dX3_init_20 : decode cX3_init 20 = .ok (.aload_n 0, 1) := by decide +kernel
theorem dX3_init_21 : decode cX3_init 21 = .ok (.bipush 8, 2) := by decide +kernel
theorem dX3_init_23 : decode cX3_init 23 = .ok (.newarray .boolean, 2) := by decide +kernel
theorem dX3_init_25 : decode cX3_init 25 = .ok (.putfield 18, 3) := by decide +kernel
theorem dX3_init_28 : decode cX3_init 28 = .ok (.aload_n 0, 1) := by decide +kernel
theorem dX3_init_29 : decode cX3_init 29 = .ok (.iconst 0, 1) := by decide +kernel
theorem dX3_init_30 : decode cX3_init 30 = .ok (.putfield 22, 3) := by decide +kernel
theorem dX3_init_33 : decode cX3_init 33 = .ok (.aload_n 0, 1) := by decide +kernel
theorem dX3_init_34 : decode cX3_init 34 = .ok (.aload_n 1, 1) := by decide +kernel
theorem dX3_init_35 : decode cX3_init 35 = .ok (.putfield 26, 3) := by decide +kernel
theorem dX3_init_38 : decode cX3_init 38 = .ok (.return_, 1) := by decide +kernel
theorem dX3_add_0 : decode cX3_add 0 = .ok (.aload_n 0, 1) := by decide +kernel
theorem dX3_add_1 : decode cX3_add 1 = .ok (.getfield 22, 3) := by decide +kernel
theorem dX3_add_4 : decode cX3_add 4 = .ok (.bipush 8, 2) := by decide +kernel
theorem dX3_add_6 : decode cX3_add 6 = .ok (.if_icmp .ge 43, 3) := by decide +kernel
theorem dX3_add_9 : decode cX3_add 9 = .ok (.aload_n 0, 1) := by decide +kernel
theorem dX3_add_10 : decode cX3_add 10 = .ok (.getfield 9, 3) := by decide +kernel
theorem dX3_add_13 : decode cX3_add 13 = .ok (.aload_n 0, 1) := by decide +kernel
theorem dX3_add_14 : decode cX3_add 14 = .ok (.getfield 22, 3) := by decide +kernel
theorem dX3_add_17 : decode cX3_add 17 = .ok (.iload_n 1, 1) := by decide +kernel
theorem dX3_add_18 : decode cX3_add 18 = .ok (.iastore, 1) := by decide +kernel
theorem dX3_add_19 : decode cX3_add 19 = .ok (.aload_n 0, 1) := by decide +kernel
theorem dX3_add_20 : decode cX3_add 20 = .ok (.getfield 15, 3) := by decide +kernel
theorem dX3_add_23 : decode cX3_add 23 = .ok (.aload_n 0, 1) := by decide +kernel
theorem dX3_add_24 : decode cX3_add 24 = .ok (.getfield 22, 3) := by decide +kernel
theorem dX3_add_27 : decode cX3_add 27 = .ok (.iload_n 2, 1) := by decide +kernel
theorem dX3_add_28 : decode cX3_add 28 = .ok (.iastore, 1) := by decide +kernel
theorem dX3_add_29 : decode cX3_add 29 = .ok (.aload_n 0, 1) := by decide +kernel
theorem dX3_add_30 : decode cX3_add 30 = .ok (.getfield 18, 3) := by decide +kernel
theorem dX3_add_33 : decode cX3_add 33 = .ok (.aload_n 0, 1) := by decide +kernel
theorem dX3_add_34 : decode cX3_add 34 = .ok (.getfield 22, 3) := by decide +kernel
theorem dX3_add_37 : decode cX3_add 37 = .ok (.iload_n 3, 1) := by decide +kernel
theorem dX3_add_38 : decode cX3_add 38 = .ok (.bastore, 1) := by decide +kernel
theorem dX3_add_39 : decode cX3_add 39 = .ok (.aload_n 0, 1) := by decide +kernel
theorem dX3_add_40 : decode cX3_add 40 = .ok (.dup, 1) := by decide +kernel
theorem dX3_add_41 : decode cX3_add 41 = .ok (.getfield 22, 3) := by decide +kernel
theorem dX3_add_44 : decode cX3_add 44 = .ok (.iconst 1, 1) := by decide +kernel
theorem dX3_add_45 : decode cX3_add 45 = .ok (.iadd, 1) := by decide +kernel
theorem dX3_add_46 : decode cX3_add 46 = .ok (.putfield 22, 3) := by decide +kernel
theorem dX3_add_49 : decode cX3_add 49 = .ok (.return_, 1) := by decide +kernel
theorem dX3_copyFrom_0 : decode cX3_copyFrom 0 = .ok (.aload_n 0, 1) := by decide +kernel
theorem dX3_copyFrom_1 : decode cX3_copyFrom 1 = .ok (.aload_n 1, 1) := by decide +kernel
theorem dX3_copyFrom_2 : decode cX3_copyFrom 2 = .ok (.getfield 22, 3) := by decide +kernel
theorem dX3_copyFrom_5 : decode cX3_copyFrom 5 = .ok (.putfield 22, 3) := by decide +kernel
theorem dX3_copyFrom_8 : decode cX3_copyFrom 8 = .ok (.iconst 0, 1) := by decide +kernel
theorem dX3_copyFrom_9 : decode cX3_copyFrom 9 = .ok (.istore_n 2, 1) := by decide +kernel
theorem dX3_copyFrom_10 : decode cX3_copyFrom 10 = .ok (.iload_n 2, 1) := by decide +kernel
theorem dX3_copyFrom_11 : decode cX3_copyFrom 11 = .ok (.aload_n 0, 1) := by decide +kernel
theorem dX3_copyFrom_12 : decode cX3_copyFrom 12 = .ok (.getfield 22, 3) := by decide +kernel
theorem dX3_copyFrom_15 : decode cX3_copyFrom 15 = .ok (.if_icmp .ge 45, 3) := by decide +kernel
theorem dX3_copyFrom_18 : decode cX3_copyFrom 18 = .ok (.aload_n 0, 1) := by decide +kernel
theorem dX3_copyFrom_19 : decode cX3_copyFrom 19 = .ok (.getfield 9, 3) := by decide +kernel
theorem dX3_copyFrom_22 : decode cX3_copyFrom 22 = .ok (.iload_n 2, 1) := by decide +kernel
theorem dX3_copyFrom_23 : decode cX3_copyFrom 23 = .ok (.aload_n 1, 1) := by decide +kernel
theorem dX3_copyFrom_24 : decode cX3_copyFrom 24 = .ok (.getfield 9, 3) := by decide +kernel
theorem dX3_copyFrom_27 : decode cX3_copyFrom 27 = .ok (.iload_n 2, 1) := by decide +kernel
theorem dX3_copyFrom_28 : decode cX3_copyFrom 28 = .ok (.iaload, 1) := by decide +kernel
theorem dX3_copyFrom_29 : decode cX3_copyFrom 29 = .ok (.iastore, 1) := by decide +kernel
theorem dX3_copyFrom_30 : decode cX3_copyFrom 30 = .ok (.aload_n 0, 1) := by decide +kernel
theorem dX3_copyFrom_31 : decode cX3_copyFrom 31 = .ok (.getfield 15, 3) := by decide +kernel
theorem dX3_copyFrom_34 : decode cX3_copyFrom 34 = .ok (.iload_n 2, 1) := by decide +kernel
theorem dX3_copyFrom_35 : decode cX3_copyFrom 35 = .ok (.aload_n 1, 1) := by decide +kernel
theorem dX3_copyFrom_36 : decode cX3_copyFrom 36 = .ok (.getfield 15, 3) := by decide +kernel
theorem dX3_copyFrom_39 : decode cX3_copyFrom 39 = .ok (.iload_n 2, 1) := by decide +kernel
theorem dX3_copyFrom_40 : decode cX3_copyFrom 40 = .ok (.iaload, 1) := by decide +kernel
theorem dX3_copyFrom_41 : decode cX3_copyFrom 41 = .ok (.iastore, 1) := by decide +kernel
theorem dX3_copyFrom_42 : decode cX3_copyFrom 42 = .ok (.aload_n 0, 1) := by decide +kernel
theorem dX3_copyFrom_43 : decode cX3_copyFrom 43 = .ok (.getfield 18, 3) := by decide +kernel
theorem dX3_copyFrom_46 : decode cX3_copyFrom 46 = .ok (.iload_n 2, 1) := by decide +kernel
theorem dX3_copyFrom_47 : decode cX3_copyFrom 47 = .ok (.aload_n 1, 1) := by decide +kernel
theorem dX3_copyFrom_48 : decode cX3_copyFrom 48 = .ok (.getfield 18, 3) := by decide +kernel
theorem dX3_copyFrom_51 : decode cX3_copyFrom 51 = .ok (.iload_n 2, 1) := by decide +kernel
theorem dX3_copyFrom_52 : decode cX3_copyFrom 52 = .ok (.baload, 1) := by decide +kernel
theorem dX3_copyFrom_53 : decode cX3_copyFrom 53 = .ok (.bastore, 1) := by decide +kernel
theorem dX3_copyFrom_54 : decode cX3_copyFrom 54 = .ok (.iinc 2 1, 3) := by decide +kernel
theorem dX3_copyFrom_57 : decode cX3_copyFrom 57 = .ok (.goto (-47), 3) := by decide +kernel
theorem dX3_copyFrom_60 : decode cX3_copyFrom 60 = .ok (.return_, 1) := by decide +kernel
theorem dX3_possibleSures_0 : decode cX3_possibleSures 0 = .ok (.iconst 0, 1) := by decide +kernel
theorem dX3_possibleSures_1 : decode cX3_possibleSures 1 = .ok (.istore_n 2, 1) := by decide +kernel
theorem dX3_possibleSures_2 : decode cX3_possibleSures 2 = .ok (.iconst 1, 1) := by decide +kernel
theorem dX3_possibleSures_3 : decode cX3_possibleSures 3 = .ok (.istore_n 3, 1) := by decide +kernel
theorem dX3_possibleSures_4 : decode cX3_possibleSures 4 = .ok (.iload_n 3, 1) := by decide +kernel
theorem dX3_possibleSures_5 : decode cX3_possibleSures 5 = .ok (.bipush 9, 2) := by decide +kernel
theorem dX3_possibleSures_7 : decode cX3_possibleSures 7 = .ok (.if_icmp .gt 30, 3) := by decide +kernel
theorem dX3_possibleSures_10 : decode cX3_possibleSures 10 = .ok (.iload_n 2, 1) := by decide +kernel
theorem dX3_possibleSures_11 : decode cX3_possibleSures 11 = .ok (.aload_n 0, 1) := by decide +kernel
theorem dX3_possibleSures_12 : decode cX3_possibleSures 12 = .ok (.iload_n 1, 1) := by decide +kernel
theorem dX3_possibleSures_13 : decode cX3_possibleSures 13 = .ok (.iload_n 3, 1) := by decide +kernel
theorem dX3_possibleSures_14 : decode cX3_possibleSures 14 = .ok (.invokevirtual 30, 3) := by decide +kernel
theorem dX3_possibleSures_17 : decode cX3_possibleSures 17 = .ok (.ifCond .le 11, 3) := by decide +kernel
theorem dX3_possibleSures_20 : decode cX3_possibleSures 20 = .ok (.iconst 1, 1) := by decide +kernel
theorem dX3_possibleSures_21 : decode cX3_possibleSures 21 = .ok (.iload_n 3, 1) := by decide +kernel
theorem dX3_possibleSures_22 : decode cX3_possibleSures 22 = .ok (.iconst 1, 1) := by decide +kernel
theorem dX3_possibleSures_23 : decode cX3_possibleSures 23 = .ok (.isub, 1) := by decide +kernel
theorem dX3_possibleSures_24 : decode cX3_possibleSures 24 = .ok (.ishl, 1) := by decide +kernel
theorem dX3_possibleSures_25 : decode cX3_possibleSures 25 = .ok (.goto 4, 3) := by decide +kernel
theorem dX3_possibleSures_28 : decode cX3_possibleSures 28 = .ok (.iconst 0, 1) := by decide +kernel
theorem dX3_possibleSures_29 : decode cX3_possibleSures 29 = .ok (.ior, 1) := by decide +kernel
theorem dX3_possibleSures_30 : decode cX3_possibleSures 30 = .ok (.istore_n 2, 1) := by decide +kernel
theorem dX3_possibleSures_31 : decode cX3_possibleSures 31 = .ok (.iinc 3 1, 3) := by decide +kernel
theorem dX3_possibleSures_34 : decode cX3_possibleSures 34 = .ok (.goto (-30), 3) := by decide +kernel
theorem dX3_possibleSures_37 : decode cX3_possibleSures 37 = .ok (.iload_n 2, 1) := by decide +kernel
theorem dX3_possibleSures_38 : decode cX3_possibleSures 38 = .ok (.ireturn, 1) := by decide +kernel
theorem dX3_likeliestSure_0 : decode cX3_likeliestSure 0 = .ok (.iconst (-1), 1) := by decide +kernel
theorem dX3_likeliestSure_1 : decode cX3_likeliestSure 1 = .ok (.istore_n 2, 1) := by decide +kernel
theorem dX3_likeliestSure_2 : decode cX3_likeliestSure 2 = .ok (.iconst 0, 1) := by decide +kernel
theorem dX3_likeliestSure_3 : decode cX3_likeliestSure 3 = .ok (.istore_n 3, 1) := by decide +kernel
theorem dX3_likeliestSure_4 : decode cX3_likeliestSure 4 = .ok (.iconst 1, 1) := by decide +kernel
theorem dX3_likeliestSure_5 : decode cX3_likeliestSure 5 = .ok (.istore 4, 2) := by decide +kernel
theorem dX3_likeliestSure_7 : decode cX3_likeliestSure 7 = .ok (.iload 4, 2) := by decide +kernel
theorem dX3_likeliestSure_9 : decode cX3_likeliestSure 9 = .ok (.bipush 9, 2) := by decide +kernel
theorem dX3_likeliestSure_11 : decode cX3_likeliestSure 11 = .ok (.if_icmp .gt 30, 3) := by decide +kernel
theorem dX3_likeliestSure_14 : decode cX3_likeliestSure 14 = .ok (.aload_n 0, 1) := by decide +kernel
theorem dX3_likeliestSure_15 : decode cX3_likeliestSure 15 = .ok (.iload_n 1, 1) := by decide +kernel
theorem dX3_likeliestSure_16 : decode cX3_likeliestSure 16 = .ok (.iload 4, 2) := by decide +kernel
theorem dX3_likeliestSure_18 : decode cX3_likeliestSure 18 = .ok (.invokevirtual 30, 3) := by decide +kernel
theorem dX3_likeliestSure_21 : decode cX3_likeliestSure 21 = .ok (.istore 5, 2) := by decide +kernel
theorem dX3_likeliestSure_23 : decode cX3_likeliestSure 23 = .ok (.iload 5, 2) := by decide +kernel
theorem dX3_likeliestSure_25 : decode cX3_likeliestSure 25 = .ok (.iload_n 3, 1) := by decide +kernel
theorem dX3_likeliestSure_26 : decode cX3_likeliestSure 26 = .ok (.if_icmp .le 9, 3) := by decide +kernel
theorem dX3_likeliestSure_29 : decode cX3_likeliestSure 29 = .ok (.iload 5, 2) := by decide +kernel
theorem dX3_likeliestSure_31 : decode cX3_likeliestSure 31 = .ok (.istore_n 3, 1) := by decide +kernel
theorem dX3_likeliestSure_32 : decode cX3_likeliestSure 32 = .ok (.iload 4, 2) := by decide +kernel
theorem dX3_likeliestSure_34 : decode cX3_likeliestSure 34 = .ok (.istore_n 2, 1) := by decide +kernel
theorem dX3_likeliestSure_35 : decode cX3_likeliestSure 35 = .ok (.iinc 4 1, 3) := by decide +kernel
theorem dX3_likeliestSure_38 : decode cX3_likeliestSure 38 = .ok (.goto (-31), 3) := by decide +kernel
theorem dX3_likeliestSure_41 : decode cX3_likeliestSure 41 = .ok (.iload_n 2, 1) := by decide +kernel
theorem dX3_likeliestSure_42 : decode cX3_likeliestSure 42 = .ok (.ireturn, 1) := by decide +kernel
theorem dX3_likelihood_0 : decode cX3_likelihood 0 = .ok (.iconst 1, 1) := by decide +kernel
theorem dX3_likelihood_1 : decode cX3_likelihood 1 = .ok (.istore_n 3, 1) := by decide +kernel
theorem dX3_likelihood_2 : decode cX3_likelihood 2 = .ok (.iconst 0, 1) := by decide +kernel
theorem dX3_likelihood_3 : decode cX3_likelihood 3 = .ok (.istore 4, 2) := by decide +kernel
theorem dX3_likelihood_5 : decode cX3_likelihood 5 = .ok (.iload 4, 2) := by decide +kernel
theorem dX3_likelihood_7 : decode cX3_likelihood 7 = .ok (.aload_n 0, 1) := by decide +kernel
theorem dX3_likelihood_8 : decode cX3_likelihood 8 = .ok (.getfield 22, 3) := by decide +kernel
theorem dX3_likelihood_11 : decode cX3_likelihood 11 = .ok (.if_icmp .ge 64, 3) := by decide +kernel
theorem dX3_likelihood_14 : decode cX3_likelihood 14 = .ok (.aload_n 0, 1) := by decide +kernel
theorem dX3_likelihood_15 : decode cX3_likelihood 15 = .ok (.getfield 9, 3) := by decide +kernel
theorem dX3_likelihood_18 : decode cX3_likelihood 18 = .ok (.iload 4, 2) := by decide +kernel
theorem dX3_likelihood_20 : decode cX3_likelihood 20 = .ok (.iaload, 1) := by decide +kernel
theorem dX3_likelihood_21 : decode cX3_likelihood 21 = .ok (.iload_n 1, 1) := by decide +kernel
theorem dX3_likelihood_22 : decode cX3_likelihood 22 = .ok (.if_icmp .ne 47, 3) := by decide +kernel
theorem dX3_likelihood_25 : decode cX3_likelihood 25 = .ok (.aload_n 0, 1) := by decide +kernel
theorem dX3_likelihood_26 : decode cX3_likelihood 26 = .ok (.getfield 26, 3) := by decide +kernel
theorem dX3_likelihood_29 : decode cX3_likelihood 29 = .ok (.iload_n 1, 1) := by decide +kernel
theorem dX3_likelihood_30 : decode cX3_likelihood 30 = .ok (.invokevirtual 34, 3) := by decide +kernel
theorem dX3_likelihood_33 : decode cX3_likelihood 33 = .ok (.iload_n 2, 1) := by decide +kernel
theorem dX3_likelihood_34 : decode cX3_likelihood 34 = .ok (.aload_n 0, 1) := by decide +kernel
theorem dX3_likelihood_35 : decode cX3_likelihood 35 = .ok (.getfield 15, 3) := by decide +kernel
theorem dX3_likelihood_38 : decode cX3_likelihood 38 = .ok (.iload 4, 2) := by decide +kernel
theorem dX3_likelihood_40 : decode cX3_likelihood 40 = .ok (.iaload, 1) := by decide +kernel
theorem dX3_likelihood_41 : decode cX3_likelihood 41 = .ok (.invokestatic 40, 3) := by decide +kernel
theorem dX3_likelihood_44 : decode cX3_likelihood 44 = .ok (.istore 5, 2) := by decide +kernel
theorem dX3_likelihood_46 : decode cX3_likelihood 46 = .ok (.iload_n 3, 1) := by decide +kernel
theorem dX3_likelihood_47 : decode cX3_likelihood 47 = .ok (.aload_n 0, 1) := by decide +kernel
theorem dX3_likelihood_48 : decode cX3_likelihood 48 = .ok (.getfield 18, 3) := by decide +kernel
theorem dX3_likelihood_51 : decode cX3_likelihood 51 = .ok (.iload 4, 2) := by decide +kernel
theorem dX3_likelihood_53 : decode cX3_likelihood 53 = .ok (.baload, 1) := by decide +kernel
theorem dX3_likelihood_54 : decode cX3_likelihood 54 = .ok (.ifCond .eq 8, 3) := by decide +kernel
theorem dX3_likelihood_57 : decode cX3_likelihood 57 = .ok (.iload 5, 2) := by decide +kernel
theorem dX3_likelihood_59 : decode cX3_likelihood 59 = .ok (.goto 8, 3) := by decide +kernel
theorem dX3_likelihood_62 : decode cX3_likelihood 62 = .ok (.bipush 10, 2) := by decide +kernel
theorem dX3_likelihood_64 : decode cX3_likelihood 64 = .ok (.iload 5, 2) := by decide +kernel
theorem dX3_likelihood_66 : decode cX3_likelihood 66 = .ok (.isub, 1) := by decide +kernel
theorem dX3_likelihood_67 : decode cX3_likelihood 67 = .ok (.imul, 1) := by decide +kernel
theorem dX3_likelihood_68 : decode cX3_likelihood 68 = .ok (.istore_n 3, 1) := by decide +kernel
theorem dX3_likelihood_69 : decode cX3_likelihood 69 = .ok (.iinc 4 1, 3) := by decide +kernel
theorem dX3_likelihood_72 : decode cX3_likelihood 72 = .ok (.goto (-67), 3) := by decide +kernel
theorem dX3_likelihood_75 : decode cX3_likelihood 75 = .ok (.iload_n 3, 1) := by decide +kernel
theorem dX3_likelihood_76 : decode cX3_likelihood 76 = .ok (.ireturn, 1) := by decide +kernel
theorem dX4_init_0 : decode cX4_init 0 = .ok (.aload_n 0, 1) := by decide +kernel
theorem dX4_init_1 : decode cX4_init 1 = .ok (.invokespecial 3, 3) := by decide +kernel
theorem dX4_init_4 : decode cX4_init 4 = .ok (.aload_n 0, 1) := by decide +kernel
theorem dX4_init_5 : decode cX4_init 5 = .ok (.new 9, 3) := by decide +kernel
theorem dX4_init_8 : decode cX4_init 8 = .ok (.dup, 1) := by decide +kernel
theorem dX4_init_9 : decode cX4_init 9 = .ok (.invokespecial 11, 3) := by decide +kernel
theorem dX4_init_12 : decode cX4_init 12 = .ok (.putfield 12, 3) := by decide +kernel
theorem dX4_init_15 : decode cX4_init 15 = .ok (.aload_n 0, 1) := by decide +kernel
theorem dX4_init_16 : decode cX4_init 16 = .ok (.new 16, 3) := by decide +kernel
theorem dX4_init_19 : decode cX4_init 19 = .ok (.dup, 1) := by decide +kernel
theorem dX4_init_20 : decode cX4_init 20 = .ok (.invokespecial 18, 3) := by decide +kernel
theorem dX4_init_23 : decode cX4_init 23 = .ok (.putfield 19, 3) := by decide +kernel
theorem dX4_init_26 : decode cX4_init 26 = .ok (.aload_n 0, 1) := by decide +kernel
theorem dX4_init_27 : decode cX4_init 27 = .ok (.new 23, 3) := by decide +kernel
theorem dX4_init_30 : decode cX4_init 30 = .ok (.dup, 1) := by decide +kernel
theorem dX4_init_31 : decode cX4_init 31 = .ok (.aload_n 0, 1) := by decide +kernel
theorem dX4_init_32 : decode cX4_init 32 = .ok (.getfield 19, 3) := by decide +kernel
theorem dX4_init_35 : decode cX4_init 35 = .ok (.invokespecial 25, 3) := by decide +kernel
theorem dX4_init_38 : decode cX4_init 38 = .ok (.putfield 28, 3) := by decide +kernel
theorem dX4_init_41 : decode cX4_init 41 = .ok (.aload_n 0, 1) := by decide +kernel
theorem dX4_init_42 : decode cX4_init 42 = .ok (.new 32, 3) := by decide +kernel
theorem dX4_init_45 : decode cX4_init 45 = .ok (.dup, 1) := by decide +kernel
theorem dX4_init_46 : decode cX4_init 46 = .ok (.aload_n 0, 1) := by decide +kernel
theorem dX4_init_47 : decode cX4_init 47 = .ok (.getfield 19, 3) := by decide +kernel
theorem dX4_init_50 : decode cX4_init 50 = .ok (.invokespecial 34, 3) := by decide +kernel
theorem dX4_init_53 : decode cX4_init 53 = .ok (.putfield 35, 3) := by decide +kernel
theorem dX4_init_56 : decode cX4_init 56 = .ok (.aload_n 0, 1) := by decide +kernel
theorem dX4_init_57 : decode cX4_init 57 = .ok (.iconst 0, 1) := by decide +kernel
theorem dX4_init_58 : decode cX4_init 58 = .ok (.putfield 39, 3) := by decide +kernel
theorem dX4_init_61 : decode cX4_init 61 = .ok (.aload_n 0, 1) := by decide +kernel
theorem dX4_init_62 : decode cX4_init 62 = .ok (.iconst 0, 1) := by decide +kernel
theorem dX4_init_63 : decode cX4_init 63 = .ok (.putfield 43, 3) := by decide +kernel
theorem dX4_init_66 : decode cX4_init 66 = .ok (.aload_n 0, 1) := by decide +kernel
theorem dX4_init_67 : decode cX4_init 67 = .ok (.new 23, 3) := by decide +kernel
theorem dX4_init_70 : decode cX4_init 70 = .ok (.dup, 1) := by decide +kernel
theorem dX4_init_71 : decode cX4_init 71 = .ok (.aload_n 0, 1) := by decide +kernel
theorem dX4_init_72 : decode cX4_init 72 = .ok (.getfield 19, 3) := by decide +kernel
theorem dX4_init_75 : decode cX4_init 75 = .ok (.invokespecial 25, 3) := by decide +kernel
theorem dX4_init_78 : decode cX4_init 78 = .ok (.putfield 47, 3) := by decide +kernel
theorem dX4_init_81 : decode cX4_init 81 = .ok (.aload_n 0, 1) := by decide +kernel
theorem dX4_init_82 : decode cX4_init 82 = .ok (.new 32, 3) := by decide +kernel
theorem dX4_init_85 : decode cX4_init 85 = .ok (.dup, 1) := by decide +kernel
theorem dX4_init_86 : decode cX4_init 86 = .ok (.aload_n 0, 1) := by decide +kernel
theorem dX4_init_87 : decode cX4_init 87 = .ok (.getfield 19, 3) := by decide +kernel
theorem dX4_init_90 : decode cX4_init 90 = .ok (.invokespecial 34, 3) := by decide +kernel
theorem dX4_init_93 : decode cX4_init 93 = .ok (.putfield 50, 3) := by decide +kernel
theorem dX4_init_96 : decode cX4_init 96 = .ok (.aload_n 0, 1) := by decide +kernel
theorem dX4_init_97 : decode cX4_init 97 = .ok (.iconst 0, 1) := by decide +kernel
theorem dX4_init_98 : decode cX4_init 98 = .ok (.putfield 53, 3) := by decide +kernel
theorem dX4_init_101 : decode cX4_init 101 = .ok (.aload_n 0, 1) := by decide +kernel
theorem dX4_init_102 : decode cX4_init 102 = .ok (.new 23, 3) := by decide +kernel
theorem dX4_init_105 : decode cX4_init 105 = .ok (.dup, 1) := by decide +kernel
theorem dX4_init_106 : decode cX4_init 106 = .ok (.aload_n 0, 1) := by decide +kernel
theorem dX4_init_107 : decode cX4_init 107 = .ok (.getfield 19, 3) := by decide +kernel
theorem dX4_init_110 : decode cX4_init 110 = .ok (.invokespecial 25, 3) := by decide +kernel
theorem dX4_init_113 : decode cX4_init 113 = .ok (.putfield 56, 3) := by decide +kernel
theorem dX4_init_116 : decode cX4_init 116 = .ok (.aload_n 0, 1) := by decide +kernel
theorem dX4_init_117 : decode cX4_init 117 = .ok (.new 23, 3) := by decide +kernel
theorem dX4_init_120 : decode cX4_init 120 = .ok (.dup, 1) := by decide +kernel
theorem dX4_init_121 : decode cX4_init 121 = .ok (.aload_n 0, 1) := by decide +kernel
theorem dX4_init_122 : decode cX4_init 122 = .ok (.getfield 19, 3) := by decide +kernel
theorem dX4_init_125 : decode cX4_init 125 = .ok (.invokespecial 25, 3) := by decide +kernel
theorem dX4_init_128 : decode cX4_init 128 = .ok (.putfield 59, 3) := by decide +kernel
theorem dX4_init_131 : decode cX4_init 131 = .ok (.aload_n 0, 1) := by decide +kernel
theorem dX4_init_132 : decode cX4_init 132 = .ok (.iconst 0, 1) := by decide +kernel
theorem dX4_init_133 : decode cX4_init 133 = .ok (.putfield 62, 3) := by decide +kernel
theorem dX4_init_136 : decode cX4_init 136 = .ok (.aload_n 0, 1) := by decide +kernel
theorem dX4_init_137 : decode cX4_init 137 = .ok (.iconst 0, 1) := by decide +kernel
theorem dX4_init_138 : decode cX4_init 138 = .ok (.putfield 65, 3) := by decide +kernel
theorem dX4_init_141 : decode cX4_init 141 = .ok (.return_, 1) := by decide +kernel
theorem dX4_letter_0 : decode cX4_letter 0 = .ok (.iload_n 1, 1) := by decide +kernel
theorem dX4_letter_1 : decode cX4_letter 1 = .ok (.iconst 1, 1) := by decide +kernel
theorem dX4_letter_2 : decode cX4_letter 2 = .ok (.if_icmp .lt 9, 3) := by decide +kernel
theorem dX4_letter_5 : decode cX4_letter 5 = .ok (.iload_n 1, 1) := by decide +kernel
theorem dX4_letter_6 : decode cX4_letter 6 = .ok (.bipush 126, 2) := by decide +kernel
theorem dX4_letter_8 : decode cX4_letter 8 = .ok (.if_icmp .le 6, 3) := by decide +kernel
theorem dX4_letter_11 : decode cX4_letter 11 = .ok (.bipush (-102), 2) := by decide +kernel
theorem dX4_letter_13 : decode cX4_letter 13 = .ok (.ireturn, 1) := by decide +kernel
theorem dX4_letter_14 : decode cX4_letter 14 = .ok (.aload_n 0, 1) := by decide +kernel
theorem dX4_letter_15 : decode cX4_letter 15 = .ok (.getfield 12, 3) := by decide +kernel
theorem dX4_letter_18 : decode cX4_letter 18 = .ok (.getfield 68, 3) := by decide +kernel
theorem dX4_letter_21 : decode cX4_letter 21 = .ok (.bipush 30, 2) := by decide +kernel
theorem dX4_letter_23 : decode cX4_letter 23 = .ok (.if_icmp .lt 6, 3) := by decide +kernel
theorem dX4_letter_26 : decode cX4_letter 26 = .ok (.bipush (-104), 2) := by decide +kernel
theorem dX4_letter_28 : decode cX4_letter 28 = .ok (.ireturn, 1) := by decide +kernel
theorem dX4_letter_29 : decode cX4_letter 29 = .ok (.aload_n 0, 1) := by decide +kernel
theorem dX4_letter_30 : decode cX4_letter 30 = .ok (.getfield 12, 3) := by decide +kernel
theorem dX4_letter_33 : decode cX4_letter 33 = .ok (.iload_n 1, 1) := by decide +kernel
theorem dX4_letter_34 : decode cX4_letter 34 = .ok (.invokevirtual 71, 3) := by decide +kernel
theorem dX4_letter_37 : decode cX4_letter 37 = .ok (.aload_n 0, 1) := by decide +kernel
theorem dX4_letter_38 : decode cX4_letter 38 = .ok (.getfield 12, 3) := by decide +kernel
theorem dX4_letter_41 : decode cX4_letter 41 = .ok (.getfield 68, 3) := by decide +kernel
theorem dX4_letter_44 : decode cX4_letter 44 = .ok (.ireturn, 1) := by decide +kernel
theorem dX4_blank_0 : decode cX4_blank 0 = .ok (.aload_n 0, 1) := by decide +kernel
theorem dX4_blank_1 : decode cX4_blank 1 = .ok (.getfield 12, 3) := by decide +kernel
theorem dX4_blank_4 : decode cX4_blank 4 = .ok (.getfield 68, 3) := by decide +kernel
theorem dX4_blank_7 : decode cX4_blank 7 = .ok (.istore_n 1, 1) := by decide +kernel
theorem dX4_blank_8 : decode cX4_blank 8 = .ok (.aload_n 0, 1) := by decide +kernel
theorem dX4_blank_9 : decode cX4_blank 9 = .ok (.getfield 12, 3) := by decide +kernel
theorem dX4_blank_12 : decode cX4_blank 12 = .ok (.iconst 0, 1) := by decide +kernel
theorem dX4_blank_13 : decode cX4_blank 13 = .ok (.putfield 68, 3) := by decide +kernel
theorem dX4_blank_16 : decode cX4_blank 16 = .ok (.iload_n 1, 1) := by decide +kernel
theorem dX4_blank_17 : decode cX4_blank 17 = .ok (.ireturn, 1) := by decide +kernel
theorem dX4_fault_0 : decode cX4_fault 0 = .ok (.aload_n 0, 1) := by decide +kernel
theorem dX4_fault_1 : decode cX4_fault 1 = .ok (.getfield 12, 3) := by decide +kernel
theorem dX4_fault_4 : decode cX4_fault 4 = .ok (.invokevirtual 75, 3) := by decide +kernel
theorem dX4_fault_7 : decode cX4_fault 7 = .ok (.ireturn, 1) := by decide +kernel
theorem dX4_gym_0 : decode cX4_gym 0 = .ok (.aload_n 0, 1) := by decide +kernel
theorem dX4_gym_1 : decode cX4_gym 1 = .ok (.getfield 12, 3) := by decide +kernel
theorem dX4_gym_4 : decode cX4_gym 4 = .ok (.invokevirtual 79, 3) := by decide +kernel
theorem dX4_gym_7 : decode cX4_gym 7 = .ok (.ifCond .ne 6, 3) := by decide +kernel
theorem dX4_gym_10 : decode cX4_gym 10 = .ok (.bipush (-103), 2) := by decide +kernel
theorem dX4_gym_12 : decode cX4_gym 12 = .ok (.ireturn, 1) := by decide +kernel
theorem dX4_gym_13 : decode cX4_gym 13 = .ok (.aload_n 0, 1) := by decide +kernel
theorem dX4_gym_14 : decode cX4_gym 14 = .ok (.getfield 19, 3) := by decide +kernel
theorem dX4_gym_17 : decode cX4_gym 17 = .ok (.aload_n 0, 1) := by decide +kernel
theorem dX4_gym_18 : decode cX4_gym 18 = .ok (.getfield 12, 3) := by decide +kernel
theorem dX4_gym_21 : decode cX4_gym 21 = .ok (.invokevirtual 83, 3) := by decide +kernel
theorem dX4_gym_24 : decode cX4_gym 24 = .ok (.aload_n 0, 1) := by decide +kernel
theorem dX4_gym_25 : decode cX4_gym 25 = .ok (.getfield 12, 3) := by decide +kernel
theorem dX4_gym_28 : decode cX4_gym 28 = .ok (.iconst 0, 1) := by decide +kernel
theorem dX4_gym_29 : decode cX4_gym 29 = .ok (.putfield 68, 3) := by decide +kernel
theorem dX4_gym_32 : decode cX4_gym 32 = .ok (.aload_n 0, 1) := by decide +kernel
theorem dX4_gym_33 : decode cX4_gym 33 = .ok (.getfield 28, 3) := by decide +kernel
theorem dX4_gym_36 : decode cX4_gym 36 = .ok (.iconst 0, 1) := by decide +kernel
theorem dX4_gym_37 : decode cX4_gym 37 = .ok (.putfield 87, 3) := by decide +kernel
theorem dX4_gym_40 : decode cX4_gym 40 = .ok (.aload_n 0, 1) := by decide +kernel
theorem dX4_gym_41 : decode cX4_gym 41 = .ok (.getfield 35, 3) := by decide +kernel
theorem dX4_gym_44 : decode cX4_gym 44 = .ok (.iconst 0, 1) := by decide +kernel
theorem dX4_gym_45 : decode cX4_gym 45 = .ok (.putfield 90, 3) := by decide +kernel
theorem dX4_gym_48 : decode cX4_gym 48 = .ok (.aload_n 0, 1) := by decide +kernel
theorem dX4_gym_49 : decode cX4_gym 49 = .ok (.iconst 0, 1) := by decide +kernel
theorem dX4_gym_50 : decode cX4_gym 50 = .ok (.putfield 39, 3) := by decide +kernel
theorem dX4_gym_53 : decode cX4_gym 53 = .ok (.aload_n 0, 1) := by decide +kernel
theorem dX4_gym_54 : decode cX4_gym 54 = .ok (.iconst 0, 1) := by decide +kernel
theorem dX4_gym_55 : decode cX4_gym 55 = .ok (.putfield 43, 3) := by decide +kernel
theorem dX4_gym_58 : decode cX4_gym 58 = .ok (.aload_n 0, 1) := by decide +kernel
theorem dX4_gym_59 : decode cX4_gym 59 = .ok (.dup, 1) := by decide +kernel
theorem dX4_gym_60 : decode cX4_gym 60 = .ok (.getfield 62, 3) := by decide +kernel
theorem dX4_gym_63 : decode cX4_gym 63 = .ok (.iconst 1, 1) := by decide +kernel
theorem dX4_gym_64 : decode cX4_gym 64 = .ok (.iadd, 1) := by decide +kernel
theorem dX4_gym_65 : decode cX4_gym 65 = .ok (.putfield 62, 3) := by decide +kernel
theorem dX4_gym_68 : decode cX4_gym 68 = .ok (.aload_n 0, 1) := by decide +kernel
theorem dX4_gym_69 : decode cX4_gym 69 = .ok (.getfield 19, 3) := by decide +kernel
theorem dX4_gym_72 : decode cX4_gym 72 = .ok (.getfield 91, 3) := by decide +kernel
theorem dX4_gym_75 : decode cX4_gym 75 = .ok (.ireturn, 1) := by decide +kernel
theorem dX4_piece_0 : decode cX4_piece 0 = .ok (.aload_n 0, 1) := by decide +kernel
theorem dX4_piece_1 : decode cX4_piece 1 = .ok (.getfield 19, 3) := by decide +kernel
theorem dX4_piece_4 : decode cX4_piece 4 = .ok (.iload_n 1, 1) := by decide +kernel
theorem dX4_piece_5 : decode cX4_piece 5 = .ok (.invokevirtual 92, 3) := by decide +kernel
theorem dX4_piece_8 : decode cX4_piece 8 = .ok (.ifCond .ne 6, 3) := by decide +kernel
theorem dX4_piece_11 : decode cX4_piece 11 = .ok (.bipush (-101), 2) := by decide +kernel
theorem dX4_piece_13 : decode cX4_piece 13 = .ok (.ireturn, 1) := by decide +kernel
theorem dX4_piece_14 : decode cX4_piece 14 = .ok (.iload_n 2, 1) := by decide +kernel
theorem dX4_piece_15 : decode cX4_piece 15 = .ok (.tableswitch 126 0 6 #[41, 50, 59, 68, 77, 108, 117], 41) := by decide +kernel
theorem dX4_piece_56 : decode cX4_piece 56 = .ok (.aload_n 0, 1) := by decide +kernel
theorem dX4_piece_57 : decode cX4_piece 57 = .ok (.getfield 19, 3) := by decide +kernel
theorem dX4_piece_60 : decode cX4_piece 60 = .ok (.iload_n 1, 1) := by decide +kernel
theorem dX4_piece_61 : decode cX4_piece 61 = .ok (.invokevirtual 96, 3) := by decide +kernel
theorem dX4_piece_64 : decode cX4_piece 64 = .ok (.ireturn, 1) := by decide +kernel
theorem dX4_piece_65 : decode cX4_piece 65 = .ok (.aload_n 0, 1) := by decide +kernel
theorem dX4_piece_66 : decode cX4_piece 66 = .ok (.getfield 19, 3) := by decide +kernel
theorem dX4_piece_69 : decode cX4_piece 69 = .ok (.iload_n 1, 1) := by decide +kernel
theorem dX4_piece_70 : decode cX4_piece 70 = .ok (.invokevirtual 100, 3) := by decide +kernel
theorem dX4_piece_73 : decode cX4_piece 73 = .ok (.ireturn, 1) := by decide +kernel
theorem dX4_piece_74 : decode cX4_piece 74 = .ok (.aload_n 0, 1) := by decide +kernel
theorem dX4_piece_75 : decode cX4_piece 75 = .ok (.getfield 19, 3) := by decide +kernel
theorem dX4_piece_78 : decode cX4_piece 78 = .ok (.iload_n 1, 1) := by decide +kernel
theorem dX4_piece_79 : decode cX4_piece 79 = .ok (.invokevirtual 103, 3) := by decide +kernel
theorem dX4_piece_82 : decode cX4_piece 82 = .ok (.ireturn, 1) := by decide +kernel
theorem dX4_piece_83 : decode cX4_piece 83 = .ok (.aload_n 0, 1) := by decide +kernel
theorem dX4_piece_84 : decode cX4_piece 84 = .ok (.getfield 28, 3) := by decide +kernel
theorem dX4_piece_87 : decode cX4_piece 87 = .ok (.iload_n 1, 1) := by decide +kernel
theorem dX4_piece_88 : decode cX4_piece 88 = .ok (.invokevirtual 106, 3) := by decide +kernel
theorem dX4_piece_91 : decode cX4_piece 91 = .ok (.ireturn, 1) := by decide +kernel
theorem dX4_piece_92 : decode cX4_piece 92 = .ok (.aload_n 0, 1) := by decide +kernel
theorem dX4_piece_93 : decode cX4_piece 93 = .ok (.getfield 28, 3) := by decide +kernel
theorem dX4_piece_96 : decode cX4_piece 96 = .ok (.iload_n 1, 1) := by decide +kernel
theorem dX4_piece_97 : decode cX4_piece 97 = .ok (.invokevirtual 109, 3) := by decide +kernel
theorem dX4_piece_100 : decode cX4_piece 100 = .ok (.ifCond .eq 21, 3) := by decide +kernel
theorem dX4_piece_103 : decode cX4_piece 103 = .ok (.aload_n 0, 1) := by decide +kernel
theorem dX4_piece_104 : decode cX4_piece 104 = .ok (.getfield 28, 3) := by decide +kernel
theorem dX4_piece_107 : decode cX4_piece 107 = .ok (.aload_n 0, 1) := by decide +kernel
theorem dX4_piece_108 : decode cX4_piece 108 = .ok (.getfield 28, 3) := by decide +kernel
theorem dX4_piece_111 : decode cX4_piece 111 = .ok (.iload_n 1, 1) := by decide +kernel
theorem dX4_piece_112 : decode cX4_piece 112 = .ok (.invokevirtual 106, 3) := by decide +kernel
theorem dX4_piece_115 : decode cX4_piece 115 = .ok (.invokevirtual 112, 3) := by decide +kernel
theorem dX4_piece_118 : decode cX4_piece 118 = .ok (.goto 4, 3) := by decide +kernel
theorem dX4_piece_121 : decode cX4_piece 121 = .ok (.iconst (-1), 1) := by decide +kernel
theorem dX4_piece_122 : decode cX4_piece 122 = .ok (.ireturn, 1) := by decide +kernel
theorem dX4_piece_123 : decode cX4_piece 123 = .ok (.aload_n 0, 1) := by decide +kernel
theorem dX4_piece_124 : decode cX4_piece 124 = .ok (.getfield 35, 3) := by decide +kernel
theorem dX4_piece_127 : decode cX4_piece 127 = .ok (.iload_n 1, 1) := by decide +kernel
theorem dX4_piece_128 : decode cX4_piece 128 = .ok (.invokevirtual 115, 3) := by decide +kernel
theorem dX4_piece_131 : decode cX4_piece 131 = .ok (.ireturn, 1) := by decide +kernel
theorem dX4_piece_132 : decode cX4_piece 132 = .ok (.aload_n 0, 1) := by decide +kernel
theorem dX4_piece_133 : decode cX4_piece 133 = .ok (.getfield 35, 3) := by decide +kernel
theorem dX4_piece_136 : decode cX4_piece 136 = .ok (.iload_n 1, 1) := by decide +kernel
theorem dX4_piece_137 : decode cX4_piece 137 = .ok (.invokevirtual 118, 3) := by decide +kernel
theorem dX4_piece_140 : decode cX4_piece 140 = .ok (.ireturn, 1) := by decide +kernel
theorem dX4_piece_141 : decode cX4_piece 141 = .ok (.bipush (-102), 2) := by decide +kernel
theorem dX4_piece_143 : decode cX4_piece 143 = .ok (.ireturn, 1) := by decide +kernel
theorem dX4_as_0 : decode cX4_as 0 = .ok (.aload_n 0, 1) := by decide +kernel
theorem dX4_as_1 : decode cX4_as 1 = .ok (.getfield 19, 3) := by decide +kernel
theorem dX4_as_4 : decode cX4_as 4 = .ok (.iload_n 1, 1) := by decide +kernel
theorem dX4_as_5 : decode cX4_as 5 = .ok (.invokevirtual 92, 3) := by decide +kernel
theorem dX4_as_8 : decode cX4_as 8 = .ok (.ifCond .ne 6, 3) := by decide +kernel
theorem dX4_as_11 : decode cX4_as 11 = .ok (.bipush (-101), 2) := by decide +kernel
theorem dX4_as_13 : decode cX4_as 13 = .ok (.ireturn, 1) := by decide +kernel
theorem dX4_as_14 : decode cX4_as 14 = .ok (.iload_n 2, 1) := by decide +kernel
theorem dX4_as_15 : decode cX4_as 15 = .ok (.ifCond .lt 8, 3) := by decide +kernel
theorem dX4_as_18 : decode cX4_as 18 = .ok (.iload_n 2, 1) := by decide +kernel
theorem dX4_as_19 : decode cX4_as 19 = .ok (.iconst 4, 1) := by decide +kernel
theorem dX4_as_20 : decode cX4_as 20 = .ok (.if_icmp .le 6, 3) := by decide +kernel
theorem dX4_as_23 : decode cX4_as 23 = .ok (.bipush (-102), 2) := by decide +kernel
theorem dX4_as_25 : decode cX4_as 25 = .ok (.ireturn, 1) := by decide +kernel
theorem dX4_as_26 : decode cX4_as 26 = .ok (.aload_n 0, 1) := by decide +kernel
theorem dX4_as_27 : decode cX4_as 27 = .ok (.getfield 19, 3) := by decide +kernel
theorem dX4_as_30 : decode cX4_as 30 = .ok (.iload_n 1, 1) := by decide +kernel
theorem dX4_as_31 : decode cX4_as 31 = .ok (.iload_n 2, 1) := by decide +kernel
theorem dX4_as_32 : decode cX4_as 32 = .ok (.invokevirtual 121, 3) := by decide +kernel
theorem dX4_as_35 : decode cX4_as 35 = .ok (.ifCond .eq 7, 3) := by decide +kernel
theorem dX4_as_38 : decode cX4_as 38 = .ok (.iload_n 1, 1) := by decide +kernel
theorem dX4_as_39 : decode cX4_as 39 = .ok (.goto 4, 3) := by decide +kernel
theorem dX4_as_42 : decode cX4_as 42 = .ok (.iconst (-1), 1) := by decide +kernel
theorem dX4_as_43 : decode cX4_as 43 = .ok (.ireturn, 1) := by decide +kernel
theorem dX4_put_0 : decode cX4_put 0 = .ok (.aload_n 0, 1) := by decide +kernel
theorem dX4_put_1 : decode cX4_put 1 = .ok (.getfield 19, 3) := by decide +kernel
theorem dX4_put_4 : decode cX4_put 4 = .ok (.iload_n 1, 1) := by decide +kernel
theorem dX4_put_5 : decode cX4_put 5 = .ok (.invokevirtual 92, 3) := by decide +kernel
theorem dX4_put_8 : decode cX4_put 8 = .ok (.ifCond .ne 6, 3) := by decide +kernel
theorem dX4_put_11 : decode cX4_put 11 = .ok (.bipush (-101), 2) := by decide +kernel
theorem dX4_put_13 : decode cX4_put 13 = .ok (.ireturn, 1) := by decide +kernel
theorem dX4_put_14 : decode cX4_put 14 = .ok (.aload_n 0, 1) := by decide +kernel
theorem dX4_put_15 : decode cX4_put 15 = .ok (.getfield 28, 3) := by decide +kernel
theorem dX4_put_18 : decode cX4_put 18 = .ok (.iload_n 1, 1) := by decide +kernel
theorem dX4_put_19 : decode cX4_put 19 = .ok (.invokevirtual 109, 3) := by decide +kernel
theorem dX4_put_22 : decode cX4_put 22 = .ok (.ifCond .eq 6, 3) := by decide +kernel
theorem dX4_put_25 : decode cX4_put 25 = .ok (.bipush (-103), 2) := by decide +kernel
theorem dX4_put_27 : decode cX4_put 27 = .ok (.ireturn, 1) := by decide +kernel
theorem dX4_put_28 : decode cX4_put 28 = .ok (.aload_n 0, 1) := by decide +kernel
theorem dX4_put_29 : decode cX4_put 29 = .ok (.getfield 28, 3) := by decide +kernel
theorem dX4_put_32 : decode cX4_put 32 = .ok (.getfield 87, 3) := by decide +kernel
theorem dX4_put_35 : decode cX4_put 35 = .ok (.iconst 5, 1) := by decide +kernel
theorem dX4_put_36 : decode cX4_put 36 = .ok (.if_icmp .lt 6, 3) := by decide +kernel
theorem dX4_put_39 : decode cX4_put 39 = .ok (.bipush (-104), 2) := by decide +kernel
theorem dX4_put_41 : decode cX4_put 41 = .ok (.ireturn, 1) := by decide +kernel
theorem dX4_put_42 : decode cX4_put 42 = .ok (.aload_n 0, 1) := by decide +kernel
theorem dX4_put_43 : decode cX4_put 43 = .ok (.getfield 28, 3) := by decide +kernel
theorem dX4_put_46 : decode cX4_put 46 = .ok (.iload_n 1, 1) := by decide +kernel
theorem dX4_put_47 : decode cX4_put 47 = .ok (.invokevirtual 125, 3) := by decide +kernel
theorem dX4_put_50 : decode cX4_put 50 = .ok (.aload_n 0, 1) := by decide +kernel
theorem dX4_put_51 : decode cX4_put 51 = .ok (.dup, 1) := by decide +kernel
theorem dX4_put_52 : decode cX4_put 52 = .ok (.getfield 39, 3) := by decide +kernel
theorem dX4_put_55 : decode cX4_put 55 = .ok (.iconst 1, 1) := by decide +kernel
theorem dX4_put_56 : decode cX4_put 56 = .ok (.iadd, 1) := by decide +kernel
theorem dX4_put_57 : decode cX4_put 57 = .ok (.putfield 39, 3) := by decide +kernel
theorem dX4_put_60 : decode cX4_put 60 = .ok (.aload_n 0, 1) := by decide +kernel
theorem dX4_put_61 : decode cX4_put 61 = .ok (.getfield 28, 3) := by decide +kernel
theorem dX4_put_64 : decode cX4_put 64 = .ok (.getfield 87, 3) := by decide +kernel
theorem dX4_put_67 : decode cX4_put 67 = .ok (.iconst 1, 1) := by decide +kernel
theorem dX4_put_68 : decode cX4_put 68 = .ok (.isub, 1) := by decide +kernel
theorem dX4_put_69 : decode cX4_put 69 = .ok (.ireturn, 1) := by decide +kernel
theorem dX4_take_0 : decode cX4_take 0 = .ok (.aload_n 0, 1) := by decide +kernel
theorem dX4_take_1 : decode cX4_take 1 = .ok (.getfield 28, 3) := by decide +kernel
theorem dX4_take_4 : decode cX4_take 4 = .ok (.iload_n 1, 1) := by decide +kernel
theorem dX4_take_5 : decode cX4_take 5 = .ok (.invokevirtual 128, 3) := by decide +kernel
theorem dX4_take_8 : decode cX4_take 8 = .ok (.ifCond .ne 6, 3) := by decide +kernel
theorem dX4_take_11 : decode cX4_take 11 = .ok (.bipush (-101), 2) := by decide +kernel
theorem dX4_take_13 : decode cX4_take 13 = .ok (.ireturn, 1) := by decide +kernel
theorem dX4_take_14 : decode cX4_take 14 = .ok (.aload_n 0, 1) := by decide +kernel
theorem dX4_take_15 : decode cX4_take 15 = .ok (.dup, 1) := by decide +kernel
theorem dX4_take_16 : decode cX4_take 16 = .ok (.getfield 39, 3) := by decide +kernel
theorem dX4_take_19 : decode cX4_take 19 = .ok (.iconst 1, 1) := by decide +kernel
theorem dX4_take_20 : decode cX4_take 20 = .ok (.iadd, 1) := by decide +kernel
theorem dX4_take_21 : decode cX4_take 21 = .ok (.putfield 39, 3) := by decide +kernel
theorem dX4_take_24 : decode cX4_take 24 = .ok (.aload_n 0, 1) := by decide +kernel
theorem dX4_take_25 : decode cX4_take 25 = .ok (.getfield 28, 3) := by decide +kernel
theorem dX4_take_28 : decode cX4_take 28 = .ok (.iload_n 1, 1) := by decide +kernel
theorem dX4_take_29 : decode cX4_take 29 = .ok (.invokevirtual 131, 3) := by decide +kernel
theorem dX4_take_32 : decode cX4_take 32 = .ok (.ireturn, 1) := by decide +kernel
theorem dX4_swap_0 : decode cX4_swap 0 = .ok (.aload_n 0, 1) := by decide +kernel
theorem dX4_swap_1 : decode cX4_swap 1 = .ok (.getfield 28, 3) := by decide +kernel
theorem dX4_swap_4 : decode cX4_swap 4 = .ok (.iload_n 1, 1) := by decide +kernel
theorem dX4_swap_5 : decode cX4_swap 5 = .ok (.invokevirtual 128, 3) := by decide +kernel
theorem dX4_swap_8 : decode cX4_swap 8 = .ok (.ifCond .eq 14, 3) := by decide +kernel
theorem dX4_swap_11 : decode cX4_swap 11 = .ok (.aload_n 0, 1) := by decide +kernel
theorem dX4_swap_12 : decode cX4_swap 12 = .ok (.getfield 28, 3) := by decide +kernel
theorem dX4_swap_15 : decode cX4_swap 15 = .ok (.iload_n 2, 1) := by decide +kernel
theorem dX4_swap_16 : decode cX4_swap 16 = .ok (.invokevirtual 128, 3) := by decide +kernel
theorem dX4_swap_19 : decode cX4_swap 19 = .ok (.ifCond .ne 6, 3) := by decide +kernel
theorem dX4_swap_22 : decode cX4_swap 22 = .ok (.bipush (-101), 2) := by decide +kernel
theorem dX4_swap_24 : decode cX4_swap 24 = .ok (.ireturn, 1) := by decide +kernel
theorem dX4_swap_25 : decode cX4_swap 25 = .ok (.aload_n 0, 1) := by decide +kernel
theorem dX4_swap_26 : decode cX4_swap 26 = .ok (.getfield 28, 3) := by decide +kernel
theorem dX4_swap_29 : decode cX4_swap 29 = .ok (.iload_n 1, 1) := by decide +kernel
theorem dX4_swap_30 : decode cX4_swap 30 = .ok (.iload_n 2, 1) := by decide +kernel
theorem dX4_swap_31 : decode cX4_swap 31 = .ok (.invokevirtual 134, 3) := by decide +kernel
theorem dX4_swap_34 : decode cX4_swap 34 = .ok (.aload_n 0, 1) := by decide +kernel
theorem dX4_swap_35 : decode cX4_swap 35 = .ok (.dup, 1) := by decide +kernel
theorem dX4_swap_36 : decode cX4_swap 36 = .ok (.getfield 39, 3) := by decide +kernel
theorem dX4_swap_39 : decode cX4_swap 39 = .ok (.iconst 1, 1) := by decide +kernel
theorem dX4_swap_40 : decode cX4_swap 40 = .ok (.iadd, 1) := by decide +kernel
theorem dX4_swap_41 : decode cX4_swap 41 = .ok (.putfield 39, 3) := by decide +kernel
theorem dX4_swap_44 : decode cX4_swap 44 = .ok (.aload_n 0, 1) := by decide +kernel
theorem dX4_swap_45 : decode cX4_swap 45 = .ok (.getfield 39, 3) := by decide +kernel
theorem dX4_swap_48 : decode cX4_swap 48 = .ok (.ireturn, 1) := by decide +kernel
theorem dX4_at_0 : decode cX4_at 0 = .ok (.aload_n 0, 1) := by decide +kernel
theorem dX4_at_1 : decode cX4_at 1 = .ok (.getfield 28, 3) := by decide +kernel
theorem dX4_at_4 : decode cX4_at 4 = .ok (.iload_n 1, 1) := by decide +kernel
theorem dX4_at_5 : decode cX4_at 5 = .ok (.invokevirtual 128, 3) := by decide +kernel
theorem dX4_at_8 : decode cX4_at 8 = .ok (.ifCond .eq 14, 3) := by decide +kernel
theorem dX4_at_11 : decode cX4_at 11 = .ok (.aload_n 0, 1) := by decide +kernel
theorem dX4_at_12 : decode cX4_at 12 = .ok (.getfield 28, 3) := by decide +kernel
theorem dX4_at_15 : decode cX4_at 15 = .ok (.iload_n 1, 1) := by decide +kernel
theorem dX4_at_16 : decode cX4_at 16 = .ok (.invokevirtual 138, 3) := by decide +kernel
theorem dX4_at_19 : decode cX4_at 19 = .ok (.goto 5, 3) := by decide +kernel
theorem dX4_at_22 : decode cX4_at 22 = .ok (.bipush (-101), 2) := by decide +kernel
theorem dX4_at_24 : decode cX4_at 24 = .ok (.ireturn, 1) := by decide +kernel
theorem dX4_score_0 : decode cX4_score 0 = .ok (.iload_n 1, 1) := by decide +kernel
theorem dX4_score_1 : decode cX4_score 1 = .ok (.ifCond .lt 16, 3) := by decide +kernel
theorem dX4_score_4 : decode cX4_score 4 = .ok (.iload_n 1, 1) := by decide +kernel
theorem dX4_score_5 : decode cX4_score 5 = .ok (.iconst 1, 1) := by decide +kernel
theorem dX4_score_6 : decode cX4_score 6 = .ok (.aload_n 0, 1) := by decide +kernel
theorem dX4_score_7 : decode cX4_score 7 = .ok (.getfield 28, 3) := by decide +kernel
theorem dX4_score_10 : decode cX4_score 10 = .ok (.getfield 87, 3) := by decide +kernel
theorem dX4_score_13 : decode cX4_score 13 = .ok (.ishl, 1) := by decide +kernel
theorem dX4_score_14 : decode cX4_score 14 = .ok (.if_icmp .lt 6, 3) := by decide +kernel
theorem dX4_score_17 : decode cX4_score 17 = .ok (.bipush (-102), 2) := by decide +kernel
theorem dX4_score_19 : decode cX4_score 19 = .ok (.ireturn, 1) := by decide +kernel
theorem dX4_score_20 : decode cX4_score 20 = .ok (.aload_n 0, 1) := by decide +kernel
theorem dX4_score_21 : decode cX4_score 21 = .ok (.invokevirtual 141, 3) := by decide +kernel
theorem dX4_score_24 : decode cX4_score 24 = .ok (.ifCond .eq 6, 3) := by decide +kernel
theorem dX4_score_27 : decode cX4_score 27 = .ok (.bipush (-103), 2) := by decide +kernel
theorem dX4_score_29 : decode cX4_score 29 = .ok (.ireturn, 1) := by decide +kernel
theorem dX4_score_30 : decode cX4_score 30 = .ok (.aload_n 0, 1) := by decide +kernel
theorem dX4_score_31 : decode cX4_score 31 = .ok (.getfield 28, 3) := by decide +kernel
theorem dX4_score_34 : decode cX4_score 34 = .ok (.iload_n 1, 1) := by decide +kernel
theorem dX4_score_35 : decode cX4_score 35 = .ok (.invokevirtual 144, 3) := by decide +kernel
theorem dX4_score_38 : decode cX4_score 38 = .ok (.sipush 200, 3) := by decide +kernel
theorem dX4_score_41 : decode cX4_score 41 = .ok (.iadd, 1) := by decide +kernel
theorem dX4_score_42 : decode cX4_score 42 = .ok (.ireturn, 1) := by decide +kernel
theorem dX4_mean_0 : decode cX4_mean 0 = .ok (.iload_n 1, 1) := by decide +kernel
theorem dX4_mean_1 : decode cX4_mean 1 = .ok (.invokestatic 147, 3) := by decide +kernel
theorem dX4_mean_4 : decode cX4_mean 4 = .ok (.ifCond .ne 6, 3) := by decide +kernel
theorem dX4_mean_7 : decode cX4_mean 7 = .ok (.bipush (-102), 2) := by decide +kernel
theorem dX4_mean_9 : decode cX4_mean 9 = .ok (.ireturn, 1) := by decide +kernel
theorem dX4_mean_10 : decode cX4_mean 10 = .ok (.aload_n 0, 1) := by decide +kernel
theorem dX4_mean_11 : decode cX4_mean 11 = .ok (.invokevirtual 141, 3) := by decide +kernel
theorem dX4_mean_14 : decode cX4_mean 14 = .ok (.ifCond .eq 6, 3) := by decide +kernel
theorem dX4_mean_17 : decode cX4_mean 17 = .ok (.bipush (-103), 2) := by decide +kernel
theorem dX4_mean_19 : decode cX4_mean 19 = .ok (.ireturn, 1) := by decide +kernel
theorem dX4_mean_20 : decode cX4_mean 20 = .ok (.aload_n 0, 1) := by decide +kernel
theorem dX4_mean_21 : decode cX4_mean 21 = .ok (.getfield 28, 3) := by decide +kernel
theorem dX4_mean_24 : decode cX4_mean 24 = .ok (.invokevirtual 150, 3) := by decide +kernel
theorem dX4_mean_27 : decode cX4_mean 27 = .ok (.bipush 100, 2) := by decide +kernel
theorem dX4_mean_29 : decode cX4_mean 29 = .ok (.iload_n 1, 1) := by decide +kernel
theorem dX4_mean_30 : decode cX4_mean 30 = .ok (.invokestatic 153, 3) := by decide +kernel
theorem dX4_mean_33 : decode cX4_mean 33 = .ok (.ireturn, 1) := by decide +kernel
theorem dX4_odds_0 : decode cX4_odds 0 = .ok (.iload_n 1, 1) := by decide +kernel
theorem dX4_odds_1 : decode cX4_odds 1 = .ok (.invokestatic 157, 3) := by decide +kernel
theorem dX4_odds_4 : decode cX4_odds 4 = .ok (.ifCond .eq 10, 3) := by decide +kernel
theorem dX4_odds_7 : decode cX4_odds 7 = .ok (.iload_n 2, 1) := by decide +kernel
theorem dX4_odds_8 : decode cX4_odds 8 = .ok (.invokestatic 147, 3) := by decide +kernel
theorem dX4_odds_11 : decode cX4_odds 11 = .ok (.ifCond .ne 6, 3) := by decide +kernel
theorem dX4_odds_14 : decode cX4_odds 14 = .ok (.bipush (-102), 2) := by decide +kernel
theorem dX4_odds_16 : decode cX4_odds 16 = .ok (.ireturn, 1) := by decide +kernel
theorem dX4_odds_17 : decode cX4_odds 17 = .ok (.aload_n 0, 1) := by decide +kernel
theorem dX4_odds_18 : decode cX4_odds 18 = .ok (.invokevirtual 141, 3) := by decide +kernel
theorem dX4_odds_21 : decode cX4_odds 21 = .ok (.ifCond .eq 6, 3) := by decide +kernel
theorem dX4_odds_24 : decode cX4_odds 24 = .ok (.bipush (-103), 2) := by decide +kernel
theorem dX4_odds_26 : decode cX4_odds 26 = .ok (.ireturn, 1) := by decide +kernel
theorem dX4_odds_27 : decode cX4_odds 27 = .ok (.aload_n 0, 1) := by decide +kernel
theorem dX4_odds_28 : decode cX4_odds 28 = .ok (.getfield 28, 3) := by decide +kernel
theorem dX4_odds_31 : decode cX4_odds 31 = .ok (.iload_n 1, 1) := by decide +kernel
theorem dX4_odds_32 : decode cX4_odds 32 = .ok (.invokevirtual 160, 3) := by decide +kernel
theorem dX4_odds_35 : decode cX4_odds 35 = .ok (.aload_n 0, 1) := by decide +kernel
theorem dX4_odds_36 : decode cX4_odds 36 = .ok (.getfield 28, 3) := by decide +kernel
theorem dX4_odds_39 : decode cX4_odds 39 = .ok (.invokevirtual 163, 3) := by decide +kernel
theorem dX4_odds_42 : decode cX4_odds 42 = .ok (.iload_n 2, 1) := by decide +kernel
theorem dX4_odds_43 : decode cX4_odds 43 = .ok (.invokestatic 153, 3) := by decide +kernel
theorem dX4_odds_46 : decode cX4_odds 46 = .ok (.ireturn, 1) := by decide +kernel
theorem dX4_best_0 : decode cX4_best 0 = .ok (.iload_n 2, 1) := by decide +kernel
theorem dX4_best_1 : decode cX4_best 1 = .ok (.bipush 10, 2) := by decide +kernel
theorem dX4_best_3 : decode cX4_best 3 = .ok (.if_icmp .lt 13, 3) := by decide +kernel
theorem dX4_best_6 : decode cX4_best 6 = .ok (.iload_n 2, 1) := by decide +kernel
theorem dX4_best_7 : decode cX4_best 7 = .ok (.bipush 13, 2) := by decide +kernel
theorem dX4_best_9 : decode cX4_best 9 = .ok (.if_icmp .ge 7, 3) := by decide +kernel
theorem dX4_best_12 : decode cX4_best 12 = .ok (.iconst 1, 1) := by decide +kernel
theorem dX4_best_13 : decode cX4_best 13 = .ok (.goto 4, 3) := by decide +kernel
theorem dX4_best_16 : decode cX4_best 16 = .ok (.iconst 0, 1) := by decide +kernel
theorem dX4_best_17 : decode cX4_best 17 = .ok (.istore_n 3, 1) := by decide +kernel
theorem dX4_best_18 : decode cX4_best 18 = .ok (.iload_n 1, 1) := by decide +kernel
theorem dX4_best_19 : decode cX4_best 19 = .ok (.iconst 1, 1) := by decide +kernel
theorem dX4_best_20 : decode cX4_best 20 = .ok (.if_icmp .lt 19, 3) := by decide +kernel
theorem dX4_best_23 : decode cX4_best 23 = .ok (.iload_n 1, 1) := by decide +kernel
theorem dX4_best_24 : decode cX4_best 24 = .ok (.iconst 3, 1) := by decide +kernel
theorem dX4_best_25 : decode cX4_best 25 = .ok (.if_icmp .gt 14, 3) := by decide +kernel
theorem dX4_best_28 : decode cX4_best 28 = .ok (.iload_n 2, 1) := by decide +kernel
theorem dX4_best_29 : decode cX4_best 29 = .ok (.invokestatic 147, 3) := by decide +kernel
theorem dX4_best_32 : decode cX4_best 32 = .ok (.ifCond .ne 10, 3) := by decide +kernel
theorem dX4_best_35 : decode cX4_best 35 = .ok (.iload_n 3, 1) := by decide +kernel
theorem dX4_best_36 : decode cX4_best 36 = .ok (.ifCond .ne 6, 3) := by decide +kernel
theorem dX4_best_39 : decode cX4_best 39 = .ok (.bipush (-102), 2) := by decide +kernel
theorem dX4_best_41 : decode cX4_best 41 = .ok (.ireturn, 1) := by decide +kernel
theorem dX4_best_42 : decode cX4_best 42 = .ok (.aload_n 0, 1) := by decide +kernel
theorem dX4_best_43 : decode cX4_best 43 = .ok (.invokevirtual 141, 3) := by decide +kernel
theorem dX4_best_46 : decode cX4_best 46 = .ok (.ifCond .ne 12, 3) := by decide +kernel
theorem dX4_best_49 : decode cX4_best 49 = .ok (.aload_n 0, 1) := by decide +kernel
theorem dX4_best_50 : decode cX4_best 50 = .ok (.getfield 65, 3) := by decide +kernel
theorem dX4_best_53 : decode cX4_best 53 = .ok (.bipush 30, 2) := by decide +kernel
theorem dX4_best_55 : decode cX4_best 55 = .ok (.if_icmp .lt 6, 3) := by decide +kernel
theorem dX4_best_58 : decode cX4_best 58 = .ok (.bipush (-103), 2) := by decide +kernel
theorem dX4_best_60 : decode cX4_best 60 = .ok (.ireturn, 1) := by decide +kernel
theorem dX4_best_61 : decode cX4_best 61 = .ok (.aload_n 0, 1) := by decide +kernel
theorem dX4_best_62 : decode cX4_best 62 = .ok (.dup, 1) := by decide +kernel
theorem dX4_best_63 : decode cX4_best 63 = .ok (.getfield 65, 3) := by decide +kernel
theorem dX4_best_66 : decode cX4_best 66 = .ok (.iconst 1, 1) := by decide +kernel
theorem dX4_best_67 : decode cX4_best 67 = .ok (.iadd, 1) := by decide +kernel
theorem dX4_best_68 : decode cX4_best 68 = .ok (.putfield 65, 3) := by decide +kernel
theorem dX4_best_71 : decode cX4_best 71 = .ok (.iload_n 1, 1) := by decide +kernel
theorem dX4_best_72 : decode cX4_best 72 = .ok (.aload_n 0, 1) := by decide +kernel
theorem dX4_best_73 : decode cX4_best 73 = .ok (.getfield 19, 3) := by decide +kernel
theorem dX4_best_76 : decode cX4_best 76 = .ok (.getfield 91, 3) := by decide +kernel
theorem dX4_best_79 : decode cX4_best 79 = .ok (.if_icmp .le 5, 3) := by decide +kernel
theorem dX4_best_82 : decode cX4_best 82 = .ok (.iconst (-1), 1) := by decide +kernel
theorem dX4_best_83 : decode cX4_best 83 = .ok (.ireturn, 1) := by decide +kernel
theorem dX4_best_84 : decode cX4_best 84 = .ok (.aload_n 0, 1) := by decide +kernel
theorem dX4_best_85 : decode cX4_best 85 = .ok (.iload_n 1, 1) := by decide +kernel
theorem dX4_best_86 : decode cX4_best 86 = .ok (.invokevirtual 166, 3) := by decide +kernel
theorem dX4_best_89 : decode cX4_best 89 = .ok (.iload_n 3, 1) := by decide +kernel
theorem dX4_best_90 : decode cX4_best 90 = .ok (.ifCond .eq 15, 3) := by decide +kernel
theorem dX4_best_93 : decode cX4_best 93 = .ok (.aload_n 0, 1) := by decide +kernel
theorem dX4_best_94 : decode cX4_best 94 = .ok (.getfield 59, 3) := by decide +kernel
theorem dX4_best_97 : decode cX4_best 97 = .ok (.iload_n 2, 1) := by decide +kernel
theorem dX4_best_98 : decode cX4_best 98 = .ok (.bipush 10, 2) := by decide +kernel
theorem dX4_best_100 : decode cX4_best 100 = .ok (.isub, 1) := by decide +kernel
theorem dX4_best_101 : decode cX4_best 101 = .ok (.invokevirtual 138, 3) := by decide +kernel
theorem dX4_best_104 : decode cX4_best 104 = .ok (.ireturn, 1) := by decide +kernel
theorem dX4_best_105 : decode cX4_best 105 = .ok (.aload_n 0, 1) := by decide +kernel
theorem dX4_best_106 : decode cX4_best 106 = .ok (.getfield 59, 3) := by decide +kernel
theorem dX4_best_109 : decode cX4_best 109 = .ok (.invokevirtual 150, 3) := by decide +kernel
theorem dX4_best_112 : decode cX4_best 112 = .ok (.bipush 100, 2) := by decide +kernel
theorem dX4_best_114 : decode cX4_best 114 = .ok (.iload_n 2, 1) := by decide +kernel
theorem dX4_best_115 : decode cX4_best 115 = .ok (.invokestatic 153, 3) := by decide +kernel
theorem dX4_best_118 : decode cX4_best 118 = .ok (.ireturn, 1) := by decide +kernel
theorem dX4_more_0 : decode cX4_more 0 = .ok (.iload_n 1, 1) := by decide +kernel
theorem dX4_more_1 : decode cX4_more 1 = .ok (.invokestatic 157, 3) := by decide +kernel
theorem dX4_more_4 : decode cX4_more 4 = .ok (.ifCond .ne 6, 3) := by decide +kernel
theorem dX4_more_7 : decode cX4_more 7 = .ok (.bipush (-102), 2) := by decide +kernel
theorem dX4_more_9 : decode cX4_more 9 = .ok (.ireturn, 1) := by decide +kernel
theorem dX4_more_10 : decode cX4_more 10 = .ok (.aload_n 0, 1) := by decide +kernel
theorem dX4_more_11 : decode cX4_more 11 = .ok (.invokevirtual 141, 3) := by decide +kernel
theorem dX4_more_14 : decode cX4_more 14 = .ok (.ifCond .ne 14, 3) := by decide +kernel
theorem dX4_more_17 : decode cX4_more 17 = .ok (.aload_n 0, 1) := by decide +kernel
theorem dX4_more_18 : decode cX4_more 18 = .ok (.getfield 28, 3) := by decide +kernel
theorem dX4_more_21 : decode cX4_more 21 = .ok (.getfield 87, 3) := by decide +kernel
theorem dX4_more_24 : decode cX4_more 24 = .ok (.iconst 5, 1) := by decide +kernel
theorem dX4_more_25 : decode cX4_more 25 = .ok (.if_icmp .lt 6, 3) := by decide +kernel
theorem dX4_more_28 : decode cX4_more 28 = .ok (.bipush (-103), 2) := by decide +kernel
theorem dX4_more_30 : decode cX4_more 30 = .ok (.ireturn, 1) := by decide +kernel
theorem dX4_more_31 : decode cX4_more 31 = .ok (.iconst (-1), 1) := by decide +kernel
theorem dX4_more_32 : decode cX4_more 32 = .ok (.istore_n 2, 1) := by decide +kernel
theorem dX4_more_33 : decode cX4_more 33 = .ok (.aload_n 0, 1) := by decide +kernel
theorem dX4_more_34 : decode cX4_more 34 = .ok (.getfield 28, 3) := by decide +kernel
theorem dX4_more_37 : decode cX4_more 37 = .ok (.iload_n 1, 1) := by decide +kernel
theorem dX4_more_38 : decode cX4_more 38 = .ok (.invokevirtual 160, 3) := by decide +kernel
theorem dX4_more_41 : decode cX4_more 41 = .ok (.bipush 10, 2) := by decide +kernel
theorem dX4_more_43 : decode cX4_more 43 = .ok (.imul, 1) := by decide +kernel
theorem dX4_more_44 : decode cX4_more 44 = .ok (.istore_n 3, 1) := by decide +kernel
theorem dX4_more_45 : decode cX4_more 45 = .ok (.iconst 0, 1) := by decide +kernel
theorem dX4_more_46 : decode cX4_more 46 = .ok (.istore 4, 2) := by decide +kernel
theorem dX4_more_48 : decode cX4_more 48 = .ok (.iload 4, 2) := by decide +kernel
theorem dX4_more_50 : decode cX4_more 50 = .ok (.aload_n 0, 1) := by decide +kernel
theorem dX4_more_51 : decode cX4_more 51 = .ok (.getfield 19, 3) := by decide +kernel
theorem dX4_more_54 : decode cX4_more 54 = .ok (.getfield 91, 3) := by decide +kernel
theorem dX4_more_57 : decode cX4_more 57 = .ok (.if_icmp .ge 63, 3) := by decide +kernel
theorem dX4_more_60 : decode cX4_more 60 = .ok (.aload_n 0, 1) := by decide +kernel
theorem dX4_more_61 : decode cX4_more 61 = .ok (.getfield 28, 3) := by decide +kernel
theorem dX4_more_64 : decode cX4_more 64 = .ok (.iload 4, 2) := by decide +kernel
theorem dX4_more_66 : decode cX4_more 66 = .ok (.invokevirtual 109, 3) := by decide +kernel
theorem dX4_more_69 : decode cX4_more 69 = .ok (.ifCond .ne 45, 3) := by decide +kernel
theorem dX4_more_72 : decode cX4_more 72 = .ok (.aload_n 0, 1) := by decide +kernel
theorem dX4_more_73 : decode cX4_more 73 = .ok (.getfield 56, 3) := by decide +kernel
theorem dX4_more_76 : decode cX4_more 76 = .ok (.aload_n 0, 1) := by decide +kernel
theorem dX4_more_77 : decode cX4_more 77 = .ok (.getfield 28, 3) := by decide +kernel
theorem dX4_more_80 : decode cX4_more 80 = .ok (.invokevirtual 169, 3) := by decide +kernel
theorem dX4_more_83 : decode cX4_more 83 = .ok (.aload_n 0, 1) := by decide +kernel
theorem dX4_more_84 : decode cX4_more 84 = .ok (.getfield 56, 3) := by decide +kernel
theorem dX4_more_87 : decode cX4_more 87 = .ok (.iload 4, 2) := by decide +kernel
theorem dX4_more_89 : decode cX4_more 89 = .ok (.invokevirtual 125, 3) := by decide +kernel
theorem dX4_more_92 : decode cX4_more 92 = .ok (.aload_n 0, 1) := by decide +kernel
theorem dX4_more_93 : decode cX4_more 93 = .ok (.getfield 56, 3) := by decide +kernel
theorem dX4_more_96 : decode cX4_more 96 = .ok (.iload_n 1, 1) := by decide +kernel
theorem dX4_more_97 : decode cX4_more 97 = .ok (.invokevirtual 160, 3) := by decide +kernel
theorem dX4_more_100 : decode cX4_more 100 = .ok (.istore 5, 2) := by decide +kernel
theorem dX4_more_102 : decode cX4_more 102 = .ok (.iload 5, 2) := by decide +kernel
theorem dX4_more_104 : decode cX4_more 104 = .ok (.iload_n 3, 1) := by decide +kernel
theorem dX4_more_105 : decode cX4_more 105 = .ok (.if_icmp .le 9, 3) := by decide +kernel
theorem dX4_more_108 : decode cX4_more 108 = .ok (.iload 5, 2) := by decide +kernel
theorem dX4_more_110 : decode cX4_more 110 = .ok (.istore_n 3, 1) := by decide +kernel
theorem dX4_more_111 : decode cX4_more 111 = .ok (.iload 4, 2) := by decide +kernel
theorem dX4_more_113 : decode cX4_more 113 = .ok (.istore_n 2, 1) := by decide +kernel
theorem dX4_more_114 : decode cX4_more 114 = .ok (.iinc 4 1, 3) := by decide +kernel
theorem dX4_more_117 : decode cX4_more 117 = .ok (.goto (-69), 3) := by decide +kernel
theorem dX4_more_120 : decode cX4_more 120 = .ok (.iload_n 2, 1) := by decide +kernel
theorem dX4_more_121 : decode cX4_more 121 = .ok (.ireturn, 1) := by decide +kernel
theorem dX4_tryIt_0 : decode cX4_tryIt 0 = .ok (.aload_n 0, 1) := by decide +kernel
theorem dX4_tryIt_1 : decode cX4_tryIt 1 = .ok (.getfield 19, 3) := by decide +kernel
