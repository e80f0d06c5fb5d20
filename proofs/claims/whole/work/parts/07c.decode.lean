theorem dX5_meanUp_30 : decode cX5_meanUp 30 = .ok (.sipush 200, 3) := by decide +kernel
theorem dX5_meanUp_33 : decode cX5_meanUp 33 = .ok (.iadd, 1) := by decide +kernel
theorem dX5_meanUp_34 : decode cX5_meanUp 34 = .ok (.imul, 1) := by decide +kernel
theorem dX5_meanUp_35 : decode cX5_meanUp 35 = .ok (.iadd, 1) := by decide +kernel
theorem dX5_meanUp_36 : decode cX5_meanUp 36 = .ok (.istore_n 3, 1) := by decide +kernel
theorem dX5_meanUp_37 : decode cX5_meanUp 37 = .ok (.iinc 4 1, 3) := by decide +kernel
theorem dX5_meanUp_40 : decode cX5_meanUp 40 = .ok (.goto (-35), 3) := by decide +kernel
theorem dX5_meanUp_43 : decode cX5_meanUp 43 = .ok (.iload_n 3, 1) := by decide +kernel
theorem dX5_meanUp_44 : decode cX5_meanUp 44 = .ok (.ireturn, 1) := by decide +kernel
theorem dX5_meanOf_0 : decode cX5_meanOf 0 = .ok (.aload_n 0, 1) := by decide +kernel
theorem dX5_meanOf_1 : decode cX5_meanOf 1 = .ok (.aload_n 1, 1) := by decide +kernel
theorem dX5_meanOf_2 : decode cX5_meanOf 2 = .ok (.iload_n 2, 1) := by decide +kernel
theorem dX5_meanOf_3 : decode cX5_meanOf 3 = .ok (.invokevirtual 128, 3) := by decide +kernel
theorem dX5_meanOf_6 : decode cX5_meanOf 6 = .ok (.istore 4, 2) := by decide +kernel
theorem dX5_meanOf_8 : decode cX5_meanOf 8 = .ok (.iload_n 2, 1) := by decide +kernel
theorem dX5_meanOf_9 : decode cX5_meanOf 9 = .ok (.invokestatic 132, 3) := by decide +kernel
theorem dX5_meanOf_12 : decode cX5_meanOf 12 = .ok (.iload 4, 2) := by decide +kernel
theorem dX5_meanOf_14 : decode cX5_meanOf 14 = .ok (.invokestatic 135, 3) := by decide +kernel
theorem dX5_meanOf_17 : decode cX5_meanOf 17 = .ok (.istore 5, 2) := by decide +kernel
theorem dX5_meanOf_19 : decode cX5_meanOf 19 = .ok (.iload_n 3, 1) := by decide +kernel
theorem dX5_meanOf_20 : decode cX5_meanOf 20 = .ok (.ifCond .ne 11, 3) := by decide +kernel
theorem dX5_meanOf_23 : decode cX5_meanOf 23 = .ok (.iload 4, 2) := by decide +kernel
theorem dX5_meanOf_25 : decode cX5_meanOf 25 = .ok (.iload 5, 2) := by decide +kernel
theorem dX5_meanOf_27 : decode cX5_meanOf 27 = .ok (.idiv, 1) := by decide +kernel
theorem dX5_meanOf_28 : decode cX5_meanOf 28 = .ok (.goto 10, 3) := by decide +kernel
theorem dX5_meanOf_31 : decode cX5_meanOf 31 = .ok (.iload_n 2, 1) := by decide +kernel
theorem dX5_meanOf_32 : decode cX5_meanOf 32 = .ok (.invokestatic 132, 3) := by decide +kernel
theorem dX5_meanOf_35 : decode cX5_meanOf 35 = .ok (.iload 5, 2) := by decide +kernel
theorem dX5_meanOf_37 : decode cX5_meanOf 37 = .ok (.idiv, 1) := by decide +kernel
theorem dX5_meanOf_38 : decode cX5_meanOf 38 = .ok (.ireturn, 1) := by decide +kernel
theorem dX5_mean_0 : decode cX5_mean 0 = .ok (.iload_n 1, 1) := by decide +kernel
theorem dX5_mean_1 : decode cX5_mean 1 = .ok (.i2l, 1) := by decide +kernel
theorem dX5_mean_2 : decode cX5_mean 2 = .ok (.lconst 0, 1) := by decide +kernel
theorem dX5_mean_3 : decode cX5_mean 3 = .ok (.lconst 1, 1) := by decide +kernel
theorem dX5_mean_4 : decode cX5_mean 4 = .ok (.invokestatic 40, 3) := by decide +kernel
theorem dX5_mean_7 : decode cX5_mean 7 = .ok (.ifCond .ne 6, 3) := by decide +kernel
theorem dX5_mean_10 : decode cX5_mean 10 = .ok (.bipush (-102), 2) := by decide +kernel
theorem dX5_mean_12 : decode cX5_mean 12 = .ok (.ireturn, 1) := by decide +kernel
theorem dX5_mean_13 : decode cX5_mean 13 = .ok (.aload_n 0, 1) := by decide +kernel
theorem dX5_mean_14 : decode cX5_mean 14 = .ok (.invokevirtual 117, 3) := by decide +kernel
theorem dX5_mean_17 : decode cX5_mean 17 = .ok (.ifCond .eq 8, 3) := by decide +kernel
theorem dX5_mean_20 : decode cX5_mean 20 = .ok (.bipush (-103), 2) := by decide +kernel
theorem dX5_mean_22 : decode cX5_mean 22 = .ok (.goto 16, 3) := by decide +kernel
theorem dX5_mean_25 : decode cX5_mean 25 = .ok (.aload_n 0, 1) := by decide +kernel
theorem dX5_mean_26 : decode cX5_mean 26 = .ok (.aload_n 0, 1) := by decide +kernel
theorem dX5_mean_27 : decode cX5_mean 27 = .ok (.getfield 16, 3) := by decide +kernel
theorem dX5_mean_30 : decode cX5_mean 30 = .ok (.aload_n 0, 1) := by decide +kernel
theorem dX5_mean_31 : decode cX5_mean 31 = .ok (.getfield 66, 3) := by decide +kernel
theorem dX5_mean_34 : decode cX5_mean 34 = .ok (.iload_n 1, 1) := by decide +kernel
theorem dX5_mean_35 : decode cX5_mean 35 = .ok (.invokevirtual 138, 3) := by decide +kernel
theorem dX5_mean_38 : decode cX5_mean 38 = .ok (.ireturn, 1) := by decide +kernel
theorem dX5_oddsUp_0 : decode cX5_oddsUp 0 = .ok (.iconst 0, 1) := by decide +kernel
theorem dX5_oddsUp_1 : decode cX5_oddsUp 1 = .ok (.istore 4, 2) := by decide +kernel
theorem dX5_oddsUp_3 : decode cX5_oddsUp 3 = .ok (.iconst 0, 1) := by decide +kernel
theorem dX5_oddsUp_4 : decode cX5_oddsUp 4 = .ok (.istore 5, 2) := by decide +kernel
theorem dX5_oddsUp_6 : decode cX5_oddsUp 6 = .ok (.iload 5, 2) := by decide +kernel
theorem dX5_oddsUp_8 : decode cX5_oddsUp 8 = .ok (.iconst 1, 1) := by decide +kernel
theorem dX5_oddsUp_9 : decode cX5_oddsUp 9 = .ok (.iload_n 2, 1) := by decide +kernel
theorem dX5_oddsUp_10 : decode cX5_oddsUp 10 = .ok (.ishl, 1) := by decide +kernel
theorem dX5_oddsUp_11 : decode cX5_oddsUp 11 = .ok (.if_icmp .ge 38, 3) := by decide +kernel
theorem dX5_oddsUp_14 : decode cX5_oddsUp 14 = .ok (.iload 4, 2) := by decide +kernel
theorem dX5_oddsUp_16 : decode cX5_oddsUp 16 = .ok (.aload_n 0, 1) := by decide +kernel
theorem dX5_oddsUp_17 : decode cX5_oddsUp 17 = .ok (.aload_n 1, 1) := by decide +kernel
theorem dX5_oddsUp_18 : decode cX5_oddsUp 18 = .ok (.iload_n 2, 1) := by decide +kernel
theorem dX5_oddsUp_19 : decode cX5_oddsUp 19 = .ok (.iload 5, 2) := by decide +kernel
theorem dX5_oddsUp_21 : decode cX5_oddsUp 21 = .ok (.invokevirtual 121, 3) := by decide +kernel
theorem dX5_oddsUp_24 : decode cX5_oddsUp 24 = .ok (.iload_n 3, 1) := by decide +kernel
theorem dX5_oddsUp_25 : decode cX5_oddsUp 25 = .ok (.if_icmp .lt 14, 3) := by decide +kernel
theorem dX5_oddsUp_28 : decode cX5_oddsUp 28 = .ok (.aload_n 0, 1) := by decide +kernel
theorem dX5_oddsUp_29 : decode cX5_oddsUp 29 = .ok (.aload_n 1, 1) := by decide +kernel
theorem dX5_oddsUp_30 : decode cX5_oddsUp 30 = .ok (.iload_n 2, 1) := by decide +kernel
theorem dX5_oddsUp_31 : decode cX5_oddsUp 31 = .ok (.iload 5, 2) := by decide +kernel
theorem dX5_oddsUp_33 : decode cX5_oddsUp 33 = .ok (.invokevirtual 125, 3) := by decide +kernel
theorem dX5_oddsUp_36 : decode cX5_oddsUp 36 = .ok (.goto 4, 3) := by decide +kernel
theorem dX5_oddsUp_39 : decode cX5_oddsUp 39 = .ok (.iconst 0, 1) := by decide +kernel
theorem dX5_oddsUp_40 : decode cX5_oddsUp 40 = .ok (.iadd, 1) := by decide +kernel
theorem dX5_oddsUp_41 : decode cX5_oddsUp 41 = .ok (.istore 4, 2) := by decide +kernel
theorem dX5_oddsUp_43 : decode cX5_oddsUp 43 = .ok (.iinc 5 1, 3) := by decide +kernel
theorem dX5_oddsUp_46 : decode cX5_oddsUp 46 = .ok (.goto (-40), 3) := by decide +kernel
theorem dX5_oddsUp_49 : decode cX5_oddsUp 49 = .ok (.iload 4, 2) := by decide +kernel
theorem dX5_oddsUp_51 : decode cX5_oddsUp 51 = .ok (.ireturn, 1) := by decide +kernel
theorem dX5_oddsOf_0 : decode cX5_oddsOf 0 = .ok (.aload_n 0, 1) := by decide +kernel
theorem dX5_oddsOf_1 : decode cX5_oddsOf 1 = .ok (.aload_n 0, 1) := by decide +kernel
theorem dX5_oddsOf_2 : decode cX5_oddsOf 2 = .ok (.getfield 16, 3) := by decide +kernel
theorem dX5_oddsOf_5 : decode cX5_oddsOf 5 = .ok (.aload_n 0, 1) := by decide +kernel
theorem dX5_oddsOf_6 : decode cX5_oddsOf 6 = .ok (.getfield 66, 3) := by decide +kernel
theorem dX5_oddsOf_9 : decode cX5_oddsOf 9 = .ok (.iload_n 1, 1) := by decide +kernel
theorem dX5_oddsOf_10 : decode cX5_oddsOf 10 = .ok (.invokevirtual 141, 3) := by decide +kernel
theorem dX5_oddsOf_13 : decode cX5_oddsOf 13 = .ok (.istore_n 3, 1) := by decide +kernel
theorem dX5_oddsOf_14 : decode cX5_oddsOf 14 = .ok (.aload_n 0, 1) := by decide +kernel
theorem dX5_oddsOf_15 : decode cX5_oddsOf 15 = .ok (.getfield 66, 3) := by decide +kernel
theorem dX5_oddsOf_18 : decode cX5_oddsOf 18 = .ok (.invokestatic 132, 3) := by decide +kernel
theorem dX5_oddsOf_21 : decode cX5_oddsOf 21 = .ok (.iload_n 3, 1) := by decide +kernel
theorem dX5_oddsOf_22 : decode cX5_oddsOf 22 = .ok (.invokestatic 135, 3) := by decide +kernel
theorem dX5_oddsOf_25 : decode cX5_oddsOf 25 = .ok (.istore 4, 2) := by decide +kernel
theorem dX5_oddsOf_27 : decode cX5_oddsOf 27 = .ok (.iload_n 2, 1) := by decide +kernel
theorem dX5_oddsOf_28 : decode cX5_oddsOf 28 = .ok (.ifCond .ne 10, 3) := by decide +kernel
theorem dX5_oddsOf_31 : decode cX5_oddsOf 31 = .ok (.iload_n 3, 1) := by decide +kernel
theorem dX5_oddsOf_32 : decode cX5_oddsOf 32 = .ok (.iload 4, 2) := by decide +kernel
theorem dX5_oddsOf_34 : decode cX5_oddsOf 34 = .ok (.idiv, 1) := by decide +kernel
theorem dX5_oddsOf_35 : decode cX5_oddsOf 35 = .ok (.goto 13, 3) := by decide +kernel
theorem dX5_oddsOf_38 : decode cX5_oddsOf 38 = .ok (.aload_n 0, 1) := by decide +kernel
theorem dX5_oddsOf_39 : decode cX5_oddsOf 39 = .ok (.getfield 66, 3) := by decide +kernel
theorem dX5_oddsOf_42 : decode cX5_oddsOf 42 = .ok (.invokestatic 132, 3) := by decide +kernel
theorem dX5_oddsOf_45 : decode cX5_oddsOf 45 = .ok (.iload 4, 2) := by decide +kernel
theorem dX5_oddsOf_47 : decode cX5_oddsOf 47 = .ok (.idiv, 1) := by decide +kernel
theorem dX5_oddsOf_48 : decode cX5_oddsOf 48 = .ok (.ireturn, 1) := by decide +kernel
theorem dX5_odds_0 : decode cX5_odds 0 = .ok (.iload_n 1, 1) := by decide +kernel
theorem dX5_odds_1 : decode cX5_odds 1 = .ok (.i2l, 1) := by decide +kernel
theorem dX5_odds_2 : decode cX5_odds 2 = .ok (.ldc2_w 144, 3) := by decide +kernel
theorem dX5_odds_5 : decode cX5_odds 5 = .ok (.ldc2_w 146, 3) := by decide +kernel
theorem dX5_odds_8 : decode cX5_odds 8 = .ok (.invokestatic 40, 3) := by decide +kernel
theorem dX5_odds_11 : decode cX5_odds 11 = .ok (.ifCond .eq 13, 3) := by decide +kernel
theorem dX5_odds_14 : decode cX5_odds 14 = .ok (.iload_n 2, 1) := by decide +kernel
theorem dX5_odds_15 : decode cX5_odds 15 = .ok (.i2l, 1) := by decide +kernel
theorem dX5_odds_16 : decode cX5_odds 16 = .ok (.lconst 0, 1) := by decide +kernel
theorem dX5_odds_17 : decode cX5_odds 17 = .ok (.lconst 1, 1) := by decide +kernel
theorem dX5_odds_18 : decode cX5_odds 18 = .ok (.invokestatic 40, 3) := by decide +kernel
theorem dX5_odds_21 : decode cX5_odds 21 = .ok (.ifCond .ne 6, 3) := by decide +kernel
theorem dX5_odds_24 : decode cX5_odds 24 = .ok (.bipush (-102), 2) := by decide +kernel
theorem dX5_odds_26 : decode cX5_odds 26 = .ok (.ireturn, 1) := by decide +kernel
theorem dX5_odds_27 : decode cX5_odds 27 = .ok (.aload_n 0, 1) := by decide +kernel
theorem dX5_odds_28 : decode cX5_odds 28 = .ok (.invokevirtual 117, 3) := by decide +kernel
theorem dX5_odds_31 : decode cX5_odds 31 = .ok (.ifCond .eq 8, 3) := by decide +kernel
theorem dX5_odds_34 : decode cX5_odds 34 = .ok (.bipush (-103), 2) := by decide +kernel
theorem dX5_odds_36 : decode cX5_odds 36 = .ok (.goto 9, 3) := by decide +kernel
theorem dX5_odds_39 : decode cX5_odds 39 = .ok (.aload_n 0, 1) := by decide +kernel
theorem dX5_odds_40 : decode cX5_odds 40 = .ok (.iload_n 1, 1) := by decide +kernel
theorem dX5_odds_41 : decode cX5_odds 41 = .ok (.iload_n 2, 1) := by decide +kernel
theorem dX5_odds_42 : decode cX5_odds 42 = .ok (.invokevirtual 148, 3) := by decide +kernel
theorem dX5_odds_45 : decode cX5_odds 45 = .ok (.ireturn, 1) := by decide +kernel
theorem dX5_layRow_0 : decode cX5_layRow 0 = .ok (.iload_n 1, 1) := by decide +kernel
theorem dX5_layRow_1 : decode cX5_layRow 1 = .ok (.istore_n 3, 1) := by decide +kernel
theorem dX5_layRow_2 : decode cX5_layRow 2 = .ok (.iconst 0, 1) := by decide +kernel
theorem dX5_layRow_3 : decode cX5_layRow 3 = .ok (.istore 4, 2) := by decide +kernel
theorem dX5_layRow_5 : decode cX5_layRow 5 = .ok (.iconst 0, 1) := by decide +kernel
theorem dX5_layRow_6 : decode cX5_layRow 6 = .ok (.istore 5, 2) := by decide +kernel
theorem dX5_layRow_8 : decode cX5_layRow 8 = .ok (.iload_n 2, 1) := by decide +kernel
theorem dX5_layRow_9 : decode cX5_layRow 9 = .ok (.iconst 1, 1) := by decide +kernel
theorem dX5_layRow_10 : decode cX5_layRow 10 = .ok (.isub, 1) := by decide +kernel
theorem dX5_layRow_11 : decode cX5_layRow 11 = .ok (.istore 6, 2) := by decide +kernel
theorem dX5_layRow_13 : decode cX5_layRow 13 = .ok (.iload 6, 2) := by decide +kernel
theorem dX5_layRow_15 : decode cX5_layRow 15 = .ok (.ifCond .lt 62, 3) := by decide +kernel
theorem dX5_layRow_18 : decode cX5_layRow 18 = .ok (.aload_n 0, 1) := by decide +kernel
theorem dX5_layRow_19 : decode cX5_layRow 19 = .ok (.getfield 19, 3) := by decide +kernel
theorem dX5_layRow_22 : decode cX5_layRow 22 = .ok (.iload 6, 2) := by decide +kernel
theorem dX5_layRow_24 : decode cX5_layRow 24 = .ok (.iload_n 3, 1) := by decide +kernel
theorem dX5_layRow_25 : decode cX5_layRow 25 = .ok (.aload_n 0, 1) := by decide +kernel
theorem dX5_layRow_26 : decode cX5_layRow 26 = .ok (.getfield 63, 3) := by decide +kernel
theorem dX5_layRow_29 : decode cX5_layRow 29 = .ok (.irem, 1) := by decide +kernel
theorem dX5_layRow_30 : decode cX5_layRow 30 = .ok (.iastore, 1) := by decide +kernel
theorem dX5_layRow_31 : decode cX5_layRow 31 = .ok (.iload 5, 2) := by decide +kernel
theorem dX5_layRow_33 : decode cX5_layRow 33 = .ok (.iconst 1, 1) := by decide +kernel
theorem dX5_layRow_34 : decode cX5_layRow 34 = .ok (.iload 4, 2) := by decide +kernel
theorem dX5_layRow_36 : decode cX5_layRow 36 = .ok (.aload_n 0, 1) := by decide +kernel
theorem dX5_layRow_37 : decode cX5_layRow 37 = .ok (.getfield 19, 3) := by decide +kernel
theorem dX5_layRow_40 : decode cX5_layRow 40 = .ok (.iload 6, 2) := by decide +kernel
theorem dX5_layRow_42 : decode cX5_layRow 42 = .ok (.iaload, 1) := by decide +kernel
theorem dX5_layRow_43 : decode cX5_layRow 43 = .ok (.ishr, 1) := by decide +kernel
theorem dX5_layRow_44 : decode cX5_layRow 44 = .ok (.iconst 1, 1) := by decide +kernel
theorem dX5_layRow_45 : decode cX5_layRow 45 = .ok (.iand, 1) := by decide +kernel
theorem dX5_layRow_46 : decode cX5_layRow 46 = .ok (.isub, 1) := by decide +kernel
theorem dX5_layRow_47 : decode cX5_layRow 47 = .ok (.iadd, 1) := by decide +kernel
theorem dX5_layRow_48 : decode cX5_layRow 48 = .ok (.istore 5, 2) := by decide +kernel
theorem dX5_layRow_50 : decode cX5_layRow 50 = .ok (.iload 4, 2) := by decide +kernel
theorem dX5_layRow_52 : decode cX5_layRow 52 = .ok (.iconst 1, 1) := by decide +kernel
theorem dX5_layRow_53 : decode cX5_layRow 53 = .ok (.aload_n 0, 1) := by decide +kernel
theorem dX5_layRow_54 : decode cX5_layRow 54 = .ok (.getfield 19, 3) := by decide +kernel
theorem dX5_layRow_57 : decode cX5_layRow 57 = .ok (.iload 6, 2) := by decide +kernel
theorem dX5_layRow_59 : decode cX5_layRow 59 = .ok (.iaload, 1) := by decide +kernel
theorem dX5_layRow_60 : decode cX5_layRow 60 = .ok (.ishl, 1) := by decide +kernel
theorem dX5_layRow_61 : decode cX5_layRow 61 = .ok (.ior, 1) := by decide +kernel
theorem dX5_layRow_62 : decode cX5_layRow 62 = .ok (.istore 4, 2) := by decide +kernel
theorem dX5_layRow_64 : decode cX5_layRow 64 = .ok (.iload_n 3, 1) := by decide +kernel
theorem dX5_layRow_65 : decode cX5_layRow 65 = .ok (.aload_n 0, 1) := by decide +kernel
theorem dX5_layRow_66 : decode cX5_layRow 66 = .ok (.getfield 63, 3) := by decide +kernel
theorem dX5_layRow_69 : decode cX5_layRow 69 = .ok (.idiv, 1) := by decide +kernel
theorem dX5_layRow_70 : decode cX5_layRow 70 = .ok (.istore_n 3, 1) := by decide +kernel
theorem dX5_layRow_71 : decode cX5_layRow 71 = .ok (.iinc 6 (-1), 3) := by decide +kernel
theorem dX5_layRow_74 : decode cX5_layRow 74 = .ok (.goto (-61), 3) := by decide +kernel
theorem dX5_layRow_77 : decode cX5_layRow 77 = .ok (.iload 5, 2) := by decide +kernel
theorem dX5_layRow_79 : decode cX5_layRow 79 = .ok (.iload_n 2, 1) := by decide +kernel
theorem dX5_layRow_80 : decode cX5_layRow 80 = .ok (.if_icmp .ne 7, 3) := by decide +kernel
theorem dX5_layRow_83 : decode cX5_layRow 83 = .ok (.iconst 1, 1) := by decide +kernel
theorem dX5_layRow_84 : decode cX5_layRow 84 = .ok (.goto 4, 3) := by decide +kernel
theorem dX5_layRow_87 : decode cX5_layRow 87 = .ok (.iconst 0, 1) := by decide +kernel
theorem dX5_layRow_88 : decode cX5_layRow 88 = .ok (.ireturn, 1) := by decide +kernel
theorem dX5_bestOf_0 : decode cX5_bestOf 0 = .ok (.iconst 1, 1) := by decide +kernel
theorem dX5_bestOf_1 : decode cX5_bestOf 1 = .ok (.istore_n 3, 1) := by decide +kernel
theorem dX5_bestOf_2 : decode cX5_bestOf 2 = .ok (.iconst 0, 1) := by decide +kernel
theorem dX5_bestOf_3 : decode cX5_bestOf 3 = .ok (.istore 4, 2) := by decide +kernel
theorem dX5_bestOf_5 : decode cX5_bestOf 5 = .ok (.iload 4, 2) := by decide +kernel
theorem dX5_bestOf_7 : decode cX5_bestOf 7 = .ok (.iload_n 1, 1) := by decide +kernel
theorem dX5_bestOf_8 : decode cX5_bestOf 8 = .ok (.if_icmp .ge 16, 3) := by decide +kernel
theorem dX5_bestOf_11 : decode cX5_bestOf 11 = .ok (.iload_n 3, 1) := by decide +kernel
theorem dX5_bestOf_12 : decode cX5_bestOf 12 = .ok (.aload_n 0, 1) := by decide +kernel
theorem dX5_bestOf_13 : decode cX5_bestOf 13 = .ok (.getfield 63, 3) := by decide +kernel
theorem dX5_bestOf_16 : decode cX5_bestOf 16 = .ok (.imul, 1) := by decide +kernel
theorem dX5_bestOf_17 : decode cX5_bestOf 17 = .ok (.istore_n 3, 1) := by decide +kernel
theorem dX5_bestOf_18 : decode cX5_bestOf 18 = .ok (.iinc 4 1, 3) := by decide +kernel
theorem dX5_bestOf_21 : decode cX5_bestOf 21 = .ok (.goto (-16), 3) := by decide +kernel
theorem dX5_bestOf_24 : decode cX5_bestOf 24 = .ok (.iconst (-1), 1) := by decide +kernel
theorem dX5_bestOf_25 : decode cX5_bestOf 25 = .ok (.istore 4, 2) := by decide +kernel
theorem dX5_bestOf_27 : decode cX5_bestOf 27 = .ok (.iconst 0, 1) := by decide +kernel
theorem dX5_bestOf_28 : decode cX5_bestOf 28 = .ok (.istore 5, 2) := by decide +kernel
theorem dX5_bestOf_30 : decode cX5_bestOf 30 = .ok (.iload 5, 2) := by decide +kernel
theorem dX5_bestOf_32 : decode cX5_bestOf 32 = .ok (.iload_n 3, 1) := by decide +kernel
theorem dX5_bestOf_33 : decode cX5_bestOf 33 = .ok (.if_icmp .ge 55, 3) := by decide +kernel
theorem dX5_bestOf_36 : decode cX5_bestOf 36 = .ok (.aload_n 0, 1) := by decide +kernel
theorem dX5_bestOf_37 : decode cX5_bestOf 37 = .ok (.iload 5, 2) := by decide +kernel
theorem dX5_bestOf_39 : decode cX5_bestOf 39 = .ok (.iload_n 1, 1) := by decide +kernel
theorem dX5_bestOf_40 : decode cX5_bestOf 40 = .ok (.invokevirtual 151, 3) := by decide +kernel
theorem dX5_bestOf_43 : decode cX5_bestOf 43 = .ok (.ifCond .eq 39, 3) := by decide +kernel
theorem dX5_bestOf_46 : decode cX5_bestOf 46 = .ok (.aload_n 0, 1) := by decide +kernel
theorem dX5_bestOf_47 : decode cX5_bestOf 47 = .ok (.aload_n 0, 1) := by decide +kernel
theorem dX5_bestOf_48 : decode cX5_bestOf 48 = .ok (.getfield 19, 3) := by decide +kernel
theorem dX5_bestOf_51 : decode cX5_bestOf 51 = .ok (.iload_n 1, 1) := by decide +kernel
theorem dX5_bestOf_52 : decode cX5_bestOf 52 = .ok (.invokevirtual 128, 3) := by decide +kernel
theorem dX5_bestOf_55 : decode cX5_bestOf 55 = .ok (.iload 4, 2) := by decide +kernel
theorem dX5_bestOf_57 : decode cX5_bestOf 57 = .ok (.if_icmp .le 25, 3) := by decide +kernel
theorem dX5_bestOf_60 : decode cX5_bestOf 60 = .ok (.aload_n 0, 1) := by decide +kernel
theorem dX5_bestOf_61 : decode cX5_bestOf 61 = .ok (.aload_n 0, 1) := by decide +kernel
theorem dX5_bestOf_62 : decode cX5_bestOf 62 = .ok (.getfield 19, 3) := by decide +kernel
theorem dX5_bestOf_65 : decode cX5_bestOf 65 = .ok (.iload_n 1, 1) := by decide +kernel
theorem dX5_bestOf_66 : decode cX5_bestOf 66 = .ok (.invokevirtual 128, 3) := by decide +kernel
theorem dX5_bestOf_69 : decode cX5_bestOf 69 = .ok (.istore 4, 2) := by decide +kernel
theorem dX5_bestOf_71 : decode cX5_bestOf 71 = .ok (.aload_n 0, 1) := by decide +kernel
theorem dX5_bestOf_72 : decode cX5_bestOf 72 = .ok (.getfield 19, 3) := by decide +kernel
theorem dX5_bestOf_75 : decode cX5_bestOf 75 = .ok (.aload_n 0, 1) := by decide +kernel
theorem dX5_bestOf_76 : decode cX5_bestOf 76 = .ok (.getfield 22, 3) := by decide +kernel
theorem dX5_bestOf_79 : decode cX5_bestOf 79 = .ok (.invokestatic 154, 3) := by decide +kernel
theorem dX5_bestOf_82 : decode cX5_bestOf 82 = .ok (.iinc 5 1, 3) := by decide +kernel
theorem dX5_bestOf_85 : decode cX5_bestOf 85 = .ok (.goto (-55), 3) := by decide +kernel
theorem dX5_bestOf_88 : decode cX5_bestOf 88 = .ok (.iload 4, 2) := by decide +kernel
theorem dX5_bestOf_90 : decode cX5_bestOf 90 = .ok (.iconst (-1), 1) := by decide +kernel
theorem dX5_bestOf_91 : decode cX5_bestOf 91 = .ok (.if_icmp .ne 5, 3) := by decide +kernel
theorem dX5_bestOf_94 : decode cX5_bestOf 94 = .ok (.iconst (-1), 1) := by decide +kernel
theorem dX5_bestOf_95 : decode cX5_bestOf 95 = .ok (.ireturn, 1) := by decide +kernel
theorem dX5_bestOf_96 : decode cX5_bestOf 96 = .ok (.iload_n 2, 1) := by decide +kernel
theorem dX5_bestOf_97 : decode cX5_bestOf 97 = .ok (.iconst 2, 1) := by decide +kernel
theorem dX5_bestOf_98 : decode cX5_bestOf 98 = .ok (.if_icmp .ge 16, 3) := by decide +kernel
theorem dX5_bestOf_101 : decode cX5_bestOf 101 = .ok (.aload_n 0, 1) := by decide +kernel
theorem dX5_bestOf_102 : decode cX5_bestOf 102 = .ok (.aload_n 0, 1) := by decide +kernel
theorem dX5_bestOf_103 : decode cX5_bestOf 103 = .ok (.getfield 22, 3) := by decide +kernel
theorem dX5_bestOf_106 : decode cX5_bestOf 106 = .ok (.iload_n 1, 1) := by decide +kernel
theorem dX5_bestOf_107 : decode cX5_bestOf 107 = .ok (.iload_n 2, 1) := by decide +kernel
theorem dX5_bestOf_108 : decode cX5_bestOf 108 = .ok (.invokevirtual 138, 3) := by decide +kernel
theorem dX5_bestOf_111 : decode cX5_bestOf 111 = .ok (.goto 24, 3) := by decide +kernel
theorem dX5_bestOf_114 : decode cX5_bestOf 114 = .ok (.iload_n 2, 1) := by decide +kernel
theorem dX5_bestOf_115 : decode cX5_bestOf 115 = .ok (.bipush 10, 2) := by decide +kernel
theorem dX5_bestOf_117 : decode cX5_bestOf 117 = .ok (.isub, 1) := by decide +kernel
theorem dX5_bestOf_118 : decode cX5_bestOf 118 = .ok (.iload_n 1, 1) := by decide +kernel
theorem dX5_bestOf_119 : decode cX5_bestOf 119 = .ok (.if_icmp .ge 15, 3) := by decide +kernel
theorem dX5_bestOf_122 : decode cX5_bestOf 122 = .ok (.aload_n 0, 1) := by decide +kernel
theorem dX5_bestOf_123 : decode cX5_bestOf 123 = .ok (.getfield 22, 3) := by decide +kernel
theorem dX5_bestOf_126 : decode cX5_bestOf 126 = .ok (.iload_n 2, 1) := by decide +kernel
theorem dX5_bestOf_127 : decode cX5_bestOf 127 = .ok (.bipush 10, 2) := by decide +kernel
theorem dX5_bestOf_129 : decode cX5_bestOf 129 = .ok (.isub, 1) := by decide +kernel
theorem dX5_bestOf_130 : decode cX5_bestOf 130 = .ok (.iaload, 1) := by decide +kernel
theorem dX5_bestOf_131 : decode cX5_bestOf 131 = .ok (.goto 4, 3) := by decide +kernel
theorem dX5_bestOf_134 : decode cX5_bestOf 134 = .ok (.iconst (-1), 1) := by decide +kernel
theorem dX5_bestOf_135 : decode cX5_bestOf 135 = .ok (.ireturn, 1) := by decide +kernel
theorem dX5_best_0 : decode cX5_best 0 = .ok (.iload_n 1, 1) := by decide +kernel
theorem dX5_best_1 : decode cX5_best 1 = .ok (.i2l, 1) := by decide +kernel
theorem dX5_best_2 : decode cX5_best 2 = .ok (.lconst 1, 1) := by decide +kernel
theorem dX5_best_3 : decode cX5_best 3 = .ok (.ldc2_w 158, 3) := by decide +kernel
theorem dX5_best_6 : decode cX5_best 6 = .ok (.invokestatic 40, 3) := by decide +kernel
theorem dX5_best_9 : decode cX5_best 9 = .ok (.ifCond .eq 27, 3) := by decide +kernel
theorem dX5_best_12 : decode cX5_best 12 = .ok (.iload_n 2, 1) := by decide +kernel
theorem dX5_best_13 : decode cX5_best 13 = .ok (.i2l, 1) := by decide +kernel
theorem dX5_best_14 : decode cX5_best 14 = .ok (.lconst 0, 1) := by decide +kernel
theorem dX5_best_15 : decode cX5_best 15 = .ok (.lconst 1, 1) := by decide +kernel
theorem dX5_best_16 : decode cX5_best 16 = .ok (.invokestatic 40, 3) := by decide +kernel
theorem dX5_best_19 : decode cX5_best 19 = .ok (.ifCond .ne 20, 3) := by decide +kernel
theorem dX5_best_22 : decode cX5_best 22 = .ok (.iload_n 2, 1) := by decide +kernel
theorem dX5_best_23 : decode cX5_best 23 = .ok (.i2l, 1) := by decide +kernel
theorem dX5_best_24 : decode cX5_best 24 = .ok (.ldc2_w 160, 3) := by decide +kernel
theorem dX5_best_27 : decode cX5_best 27 = .ok (.ldc2_w 162, 3) := by decide +kernel
theorem dX5_best_30 : decode cX5_best 30 = .ok (.invokestatic 40, 3) := by decide +kernel
theorem dX5_best_33 : decode cX5_best 33 = .ok (.ifCond .ne 6, 3) := by decide +kernel
theorem dX5_best_36 : decode cX5_best 36 = .ok (.bipush (-102), 2) := by decide +kernel
theorem dX5_best_38 : decode cX5_best 38 = .ok (.ireturn, 1) := by decide +kernel
theorem dX5_best_39 : decode cX5_best 39 = .ok (.aload_n 0, 1) := by decide +kernel
theorem dX5_best_40 : decode cX5_best 40 = .ok (.invokevirtual 117, 3) := by decide +kernel
theorem dX5_best_43 : decode cX5_best 43 = .ok (.ifCond .ne 12, 3) := by decide +kernel
theorem dX5_best_46 : decode cX5_best 46 = .ok (.aload_n 0, 1) := by decide +kernel
theorem dX5_best_47 : decode cX5_best 47 = .ok (.getfield 164, 3) := by decide +kernel
theorem dX5_best_50 : decode cX5_best 50 = .ok (.bipush 30, 2) := by decide +kernel
theorem dX5_best_52 : decode cX5_best 52 = .ok (.if_icmp .ne 6, 3) := by decide +kernel
theorem dX5_best_55 : decode cX5_best 55 = .ok (.bipush (-103), 2) := by decide +kernel
theorem dX5_best_57 : decode cX5_best 57 = .ok (.ireturn, 1) := by decide +kernel
theorem dX5_best_58 : decode cX5_best 58 = .ok (.aload_n 0, 1) := by decide +kernel
theorem dX5_best_59 : decode cX5_best 59 = .ok (.dup, 1) := by decide +kernel
theorem dX5_best_60 : decode cX5_best 60 = .ok (.getfield 164, 3) := by decide +kernel
theorem dX5_best_63 : decode cX5_best 63 = .ok (.iconst 1, 1) := by decide +kernel
theorem dX5_best_64 : decode cX5_best 64 = .ok (.iadd, 1) := by decide +kernel
theorem dX5_best_65 : decode cX5_best 65 = .ok (.putfield 164, 3) := by decide +kernel
theorem dX5_best_68 : decode cX5_best 68 = .ok (.aload_n 0, 1) := by decide +kernel
theorem dX5_best_69 : decode cX5_best 69 = .ok (.iload_n 1, 1) := by decide +kernel
theorem dX5_best_70 : decode cX5_best 70 = .ok (.iload_n 2, 1) := by decide +kernel
theorem dX5_best_71 : decode cX5_best 71 = .ok (.invokevirtual 167, 3) := by decide +kernel
theorem dX5_best_74 : decode cX5_best 74 = .ok (.ireturn, 1) := by decide +kernel
theorem dX5_moreOf_0 : decode cX5_moreOf 0 = .ok (.iconst (-1), 1) := by decide +kernel
theorem dX5_moreOf_1 : decode cX5_moreOf 1 = .ok (.istore_n 2, 1) := by decide +kernel
theorem dX5_moreOf_2 : decode cX5_moreOf 2 = .ok (.bipush 10, 2) := by decide +kernel
theorem dX5_moreOf_4 : decode cX5_moreOf 4 = .ok (.aload_n 0, 1) := by decide +kernel
theorem dX5_moreOf_5 : decode cX5_moreOf 5 = .ok (.aload_n 0, 1) := by decide +kernel
theorem dX5_moreOf_6 : decode cX5_moreOf 6 = .ok (.getfield 16, 3) := by decide +kernel
theorem dX5_moreOf_9 : decode cX5_moreOf 9 = .ok (.aload_n 0, 1) := by decide +kernel
theorem dX5_moreOf_10 : decode cX5_moreOf 10 = .ok (.getfield 66, 3) := by decide +kernel
theorem dX5_moreOf_13 : decode cX5_moreOf 13 = .ok (.iload_n 1, 1) := by decide +kernel
theorem dX5_moreOf_14 : decode cX5_moreOf 14 = .ok (.invokevirtual 141, 3) := by decide +kernel
theorem dX5_moreOf_17 : decode cX5_moreOf 17 = .ok (.imul, 1) := by decide +kernel
theorem dX5_moreOf_18 : decode cX5_moreOf 18 = .ok (.istore_n 3, 1) := by decide +kernel
theorem dX5_moreOf_19 : decode cX5_moreOf 19 = .ok (.iconst 0, 1) := by decide +kernel
theorem dX5_moreOf_20 : decode cX5_moreOf 20 = .ok (.istore 4, 2) := by decide +kernel
theorem dX5_moreOf_22 : decode cX5_moreOf 22 = .ok (.iload 4, 2) := by decide +kernel
theorem dX5_moreOf_24 : decode cX5_moreOf 24 = .ok (.aload_n 0, 1) := by decide +kernel
theorem dX5_moreOf_25 : decode cX5_moreOf 25 = .ok (.getfield 63, 3) := by decide +kernel
theorem dX5_moreOf_28 : decode cX5_moreOf 28 = .ok (.if_icmp .ge 84, 3) := by decide +kernel
theorem dX5_moreOf_31 : decode cX5_moreOf 31 = .ok (.aload_n 0, 1) := by decide +kernel
theorem dX5_moreOf_32 : decode cX5_moreOf 32 = .ok (.iload 4, 2) := by decide +kernel
theorem dX5_moreOf_34 : decode cX5_moreOf 34 = .ok (.invokevirtual 82, 3) := by decide +kernel
theorem dX5_moreOf_37 : decode cX5_moreOf 37 = .ok (.iconst (-1), 1) := by decide +kernel
theorem dX5_moreOf_38 : decode cX5_moreOf 38 = .ok (.if_icmp .ne 68, 3) := by decide +kernel
theorem dX5_moreOf_41 : decode cX5_moreOf 41 = .ok (.aload_n 0, 1) := by decide +kernel
theorem dX5_moreOf_42 : decode cX5_moreOf 42 = .ok (.getfield 16, 3) := by decide +kernel
theorem dX5_moreOf_45 : decode cX5_moreOf 45 = .ok (.aload_n 0, 1) := by decide +kernel
theorem dX5_moreOf_46 : decode cX5_moreOf 46 = .ok (.getfield 19, 3) := by decide +kernel
theorem dX5_moreOf_49 : decode cX5_moreOf 49 = .ok (.invokestatic 154, 3) := by decide +kernel
theorem dX5_moreOf_52 : decode cX5_moreOf 52 = .ok (.aload_n 0, 1) := by decide +kernel
theorem dX5_moreOf_53 : decode cX5_moreOf 53 = .ok (.getfield 19, 3) := by decide +kernel
theorem dX5_moreOf_56 : decode cX5_moreOf 56 = .ok (.aload_n 0, 1) := by decide +kernel
theorem dX5_moreOf_57 : decode cX5_moreOf 57 = .ok (.getfield 66, 3) := by decide +kernel
theorem dX5_moreOf_60 : decode cX5_moreOf 60 = .ok (.iload 4, 2) := by decide +kernel
theorem dX5_moreOf_62 : decode cX5_moreOf 62 = .ok (.iastore, 1) := by decide +kernel
theorem dX5_moreOf_63 : decode cX5_moreOf 63 = .ok (.aload_n 0, 1) := by decide +kernel
theorem dX5_moreOf_64 : decode cX5_moreOf 64 = .ok (.aload_n 0, 1) := by decide +kernel
theorem dX5_moreOf_65 : decode cX5_moreOf 65 = .ok (.getfield 19, 3) := by decide +kernel
theorem dX5_moreOf_68 : decode cX5_moreOf 68 = .ok (.aload_n 0, 1) := by decide +kernel
theorem dX5_moreOf_69 : decode cX5_moreOf 69 = .ok (.getfield 66, 3) := by decide +kernel
theorem dX5_moreOf_72 : decode cX5_moreOf 72 = .ok (.iconst 1, 1) := by decide +kernel
theorem dX5_moreOf_73 : decode cX5_moreOf 73 = .ok (.iadd, 1) := by decide +kernel
theorem dX5_moreOf_74 : decode cX5_moreOf 74 = .ok (.iload_n 1, 1) := by decide +kernel
theorem dX5_moreOf_75 : decode cX5_moreOf 75 = .ok (.invokevirtual 141, 3) := by decide +kernel
theorem dX5_moreOf_78 : decode cX5_moreOf 78 = .ok (.istore 5, 2) := by decide +kernel
theorem dX5_moreOf_80 : decode cX5_moreOf 80 = .ok (.iload 5, 2) := by decide +kernel
theorem dX5_moreOf_82 : decode cX5_moreOf 82 = .ok (.iload_n 3, 1) := by decide +kernel
theorem dX5_moreOf_83 : decode cX5_moreOf 83 = .ok (.if_icmp .le 8, 3) := by decide +kernel
theorem dX5_moreOf_86 : decode cX5_moreOf 86 = .ok (.iload 4, 2) := by decide +kernel
theorem dX5_moreOf_88 : decode cX5_moreOf 88 = .ok (.goto 4, 3) := by decide +kernel
theorem dX5_moreOf_91 : decode cX5_moreOf 91 = .ok (.iload_n 2, 1) := by decide +kernel
theorem dX5_moreOf_92 : decode cX5_moreOf 92 = .ok (.istore_n 2, 1) := by decide +kernel
theorem dX5_moreOf_93 : decode cX5_moreOf 93 = .ok (.iload 5, 2) := by decide +kernel
theorem dX5_moreOf_95 : decode cX5_moreOf 95 = .ok (.iload_n 3, 1) := by decide +kernel
theorem dX5_moreOf_96 : decode cX5_moreOf 96 = .ok (.if_icmp .le 8, 3) := by decide +kernel
theorem dX5_moreOf_99 : decode cX5_moreOf 99 = .ok (.iload 5, 2) := by decide +kernel
theorem dX5_moreOf_101 : decode cX5_moreOf 101 = .ok (.goto 4, 3) := by decide +kernel
theorem dX5_moreOf_104 : decode cX5_moreOf 104 = .ok (.iload_n 3, 1) := by decide +kernel
theorem dX5_moreOf_105 : decode cX5_moreOf 105 = .ok (.istore_n 3, 1) := by decide +kernel
theorem dX5_moreOf_106 : decode cX5_moreOf 106 = .ok (.iinc 4 1, 3) := by decide +kernel
theorem dX5_moreOf_109 : decode cX5_moreOf 109 = .ok (.goto (-87), 3) := by decide +kernel
theorem dX5_moreOf_112 : decode cX5_moreOf 112 = .ok (.iload_n 2, 1) := by decide +kernel
theorem dX5_moreOf_113 : decode cX5_moreOf 113 = .ok (.ireturn, 1) := by decide +kernel
theorem dX5_more_0 : decode cX5_more 0 = .ok (.iload_n 1, 1) := by decide +kernel
theorem dX5_more_1 : decode cX5_more 1 = .ok (.i2l, 1) := by decide +kernel
theorem dX5_more_2 : decode cX5_more 2 = .ok (.ldc2_w 144, 3) := by decide +kernel
theorem dX5_more_5 : decode cX5_more 5 = .ok (.ldc2_w 146, 3) := by decide +kernel
theorem dX5_more_8 : decode cX5_more 8 = .ok (.invokestatic 40, 3) := by decide +kernel
theorem dX5_more_11 : decode cX5_more 11 = .ok (.ifCond .ne 6, 3) := by decide +kernel
theorem dX5_more_14 : decode cX5_more 14 = .ok (.bipush (-102), 2) := by decide +kernel
theorem dX5_more_16 : decode cX5_more 16 = .ok (.ireturn, 1) := by decide +kernel
theorem dX5_more_17 : decode cX5_more 17 = .ok (.aload_n 0, 1) := by decide +kernel
theorem dX5_more_18 : decode cX5_more 18 = .ok (.invokevirtual 117, 3) := by decide +kernel
theorem dX5_more_21 : decode cX5_more 21 = .ok (.ifCond .ne 11, 3) := by decide +kernel
theorem dX5_more_24 : decode cX5_more 24 = .ok (.aload_n 0, 1) := by decide +kernel
theorem dX5_more_25 : decode cX5_more 25 = .ok (.getfield 66, 3) := by decide +kernel
theorem dX5_more_28 : decode cX5_more 28 = .ok (.iconst 5, 1) := by decide +kernel
theorem dX5_more_29 : decode cX5_more 29 = .ok (.if_icmp .ne 8, 3) := by decide +kernel
theorem dX5_more_32 : decode cX5_more 32 = .ok (.bipush (-103), 2) := by decide +kernel
theorem dX5_more_34 : decode cX5_more 34 = .ok (.goto 8, 3) := by decide +kernel
theorem dX5_more_37 : decode cX5_more 37 = .ok (.aload_n 0, 1) := by decide +kernel
theorem dX5_more_38 : decode cX5_more 38 = .ok (.iload_n 1, 1) := by decide +kernel
theorem dX5_more_39 : decode cX5_more 39 = .ok (.invokevirtual 170, 3) := by decide +kernel
theorem dX5_more_42 : decode cX5_more 42 = .ok (.ireturn, 1) := by decide +kernel
theorem dX5_tryIt_0 : decode cX5_tryIt 0 = .ok (.aload_n 0, 1) := by decide +kernel
theorem dX5_tryIt_1 : decode cX5_tryIt 1 = .ok (.iload_n 1, 1) := by decide +kernel
theorem dX5_tryIt_2 : decode cX5_tryIt 2 = .ok (.invokevirtual 95, 3) := by decide +kernel
theorem dX5_tryIt_5 : decode cX5_tryIt 5 = .ok (.ifCond .ne 6, 3) := by decide +kernel
theorem dX5_tryIt_8 : decode cX5_tryIt 8 = .ok (.bipush (-101), 2) := by decide +kernel
theorem dX5_tryIt_10 : decode cX5_tryIt 10 = .ok (.ireturn, 1) := by decide +kernel
theorem dX5_tryIt_11 : decode cX5_tryIt 11 = .ok (.iload_n 2, 1) := by decide +kernel
theorem dX5_tryIt_12 : decode cX5_tryIt 12 = .ok (.i2l, 1) := by decide +kernel
theorem dX5_tryIt_13 : decode cX5_tryIt 13 = .ok (.lconst 0, 1) := by decide +kernel
theorem dX5_tryIt_14 : decode cX5_tryIt 14 = .ok (.ldc2_w 102, 3) := by decide +kernel
theorem dX5_tryIt_17 : decode cX5_tryIt 17 = .ok (.invokestatic 40, 3) := by decide +kernel
theorem dX5_tryIt_20 : decode cX5_tryIt 20 = .ok (.ifCond .ne 6, 3) := by decide +kernel
theorem dX5_tryIt_23 : decode cX5_tryIt 23 = .ok (.bipush (-102), 2) := by decide +kernel
theorem dX5_tryIt_25 : decode cX5_tryIt 25 = .ok (.ireturn, 1) := by decide +kernel
theorem dX5_tryIt_26 : decode cX5_tryIt 26 = .ok (.aload_n 0, 1) := by decide +kernel
theorem dX5_tryIt_27 : decode cX5_tryIt 27 = .ok (.getfield 72, 3) := by decide +kernel
theorem dX5_tryIt_30 : decode cX5_tryIt 30 = .ok (.bipush 8, 2) := by decide +kernel
theorem dX5_tryIt_32 : decode cX5_tryIt 32 = .ok (.if_icmp .ne 6, 3) := by decide +kernel
theorem dX5_tryIt_35 : decode cX5_tryIt 35 = .ok (.bipush (-104), 2) := by decide +kernel
theorem dX5_tryIt_37 : decode cX5_tryIt 37 = .ok (.ireturn, 1) := by decide +kernel
theorem dX5_tryIt_38 : decode cX5_tryIt 38 = .ok (.aload_n 0, 1) := by decide +kernel
theorem dX5_tryIt_39 : decode cX5_tryIt 39 = .ok (.getfield 25, 3) := by decide +kernel
theorem dX5_tryIt_42 : decode cX5_tryIt 42 = .ok (.iconst 3, 1) := by decide +kernel
theorem dX5_tryIt_43 : decode cX5_tryIt 43 = .ok (.aload_n 0, 1) := by decide +kernel
theorem dX5_tryIt_44 : decode cX5_tryIt 44 = .ok (.getfield 72, 3) := by decide +kernel
theorem dX5_tryIt_47 : decode cX5_tryIt 47 = .ok (.imul, 1) := by decide +kernel
theorem dX5_tryIt_48 : decode cX5_tryIt 48 = .ok (.iload_n 1, 1) := by decide +kernel
theorem dX5_tryIt_49 : decode cX5_tryIt 49 = .ok (.iastore, 1) := by decide +kernel
theorem dX5_tryIt_50 : decode cX5_tryIt 50 = .ok (.aload_n 0, 1) := by decide +kernel
theorem dX5_tryIt_51 : decode cX5_tryIt 51 = .ok (.getfield 25, 3) := by decide +kernel
theorem dX5_tryIt_54 : decode cX5_tryIt 54 = .ok (.iconst 3, 1) := by decide +kernel
theorem dX5_tryIt_55 : decode cX5_tryIt 55 = .ok (.aload_n 0, 1) := by decide +kernel
theorem dX5_tryIt_56 : decode cX5_tryIt 56 = .ok (.getfield 72, 3) := by decide +kernel
theorem dX5_tryIt_59 : decode cX5_tryIt 59 = .ok (.imul, 1) := by decide +kernel
theorem dX5_tryIt_60 : decode cX5_tryIt 60 = .ok (.iconst 1, 1) := by decide +kernel
theorem dX5_tryIt_61 : decode cX5_tryIt 61 = .ok (.iadd, 1) := by decide +kernel
theorem dX5_tryIt_62 : decode cX5_tryIt 62 = .ok (.iload_n 2, 1) := by decide +kernel
theorem dX5_tryIt_63 : decode cX5_tryIt 63 = .ok (.iastore, 1) := by decide +kernel
theorem dX5_tryIt_64 : decode cX5_tryIt 64 = .ok (.aload_n 0, 1) := by decide +kernel
theorem dX5_tryIt_65 : decode cX5_tryIt 65 = .ok (.getfield 25, 3) := by decide +kernel
theorem dX5_tryIt_68 : decode cX5_tryIt 68 = .ok (.iconst 3, 1) := by decide +kernel
theorem dX5_tryIt_69 : decode cX5_tryIt 69 = .ok (.aload_n 0, 1) := by decide +kernel
theorem dX5_tryIt_70 : decode cX5_tryIt 70 = .ok (.getfield 72, 3) := by decide +kernel
theorem dX5_tryIt_73 : decode cX5_tryIt 73 = .ok (.imul, 1) := by decide +kernel
theorem dX5_tryIt_74 : decode cX5_tryIt 74 = .ok (.iconst 2, 1) := by decide +kernel
theorem dX5_tryIt_75 : decode cX5_tryIt 75 = .ok (.iadd, 1) := by decide +kernel
theorem dX5_tryIt_76 : decode cX5_tryIt 76 = .ok (.iload_n 3, 1) := by decide +kernel
theorem dX5_tryIt_77 : decode cX5_tryIt 77 = .ok (.ifCond .eq 7, 3) := by decide +kernel
theorem dX5_tryIt_80 : decode cX5_tryIt 80 = .ok (.iconst 1, 1) := by decide +kernel
theorem dX5_tryIt_81 : decode cX5_tryIt 81 = .ok (.goto 4, 3) := by decide +kernel
theorem dX5_tryIt_84 : decode cX5_tryIt 84 = .ok (.iconst 0, 1) := by decide +kernel
theorem dX5_tryIt_85 : decode cX5_tryIt 85 = .ok (.iastore, 1) := by decide +kernel
theorem dX5_tryIt_86 : decode cX5_tryIt 86 = .ok (.aload_n 0, 1) := by decide +kernel
theorem dX5_tryIt_87 : decode cX5_tryIt 87 = .ok (.dup, 1) := by decide +kernel
theorem dX5_tryIt_88 : decode cX5_tryIt 88 = .ok (.getfield 72, 3) := by decide +kernel
theorem dX5_tryIt_91 : decode cX5_tryIt 91 = .ok (.iconst 1, 1) := by decide +kernel
theorem dX5_tryIt_92 : decode cX5_tryIt 92 = .ok (.iadd, 1) := by decide +kernel
theorem dX5_tryIt_93 : decode cX5_tryIt 93 = .ok (.putfield 72, 3) := by decide +kernel
theorem dX5_tryIt_96 : decode cX5_tryIt 96 = .ok (.aload_n 0, 1) := by decide +kernel
theorem dX5_tryIt_97 : decode cX5_tryIt 97 = .ok (.getfield 72, 3) := by decide +kernel
theorem dX5_tryIt_100 : decode cX5_tryIt 100 = .ok (.ireturn, 1) := by decide +kernel
theorem dX5_forget_0 : decode cX5_forget 0 = .ok (.aload_n 0, 1) := by decide +kernel
theorem dX5_forget_1 : decode cX5_forget 1 = .ok (.getfield 72, 3) := by decide +kernel
theorem dX5_forget_4 : decode cX5_forget 4 = .ok (.istore_n 1, 1) := by decide +kernel
theorem dX5_forget_5 : decode cX5_forget 5 = .ok (.aload_n 0, 1) := by decide +kernel
theorem dX5_forget_6 : decode cX5_forget 6 = .ok (.iconst 0, 1) := by decide +kernel
theorem dX5_forget_7 : decode cX5_forget 7 = .ok (.putfield 72, 3) := by decide +kernel
theorem dX5_forget_10 : decode cX5_forget 10 = .ok (.iload_n 1, 1) := by decide +kernel
theorem dX5_forget_11 : decode cX5_forget 11 = .ok (.ireturn, 1) := by decide +kernel
theorem dX5_triedWays_0 : decode cX5_triedWays 0 = .ok (.lconst 1, 1) := by decide +kernel
theorem dX5_triedWays_1 : decode cX5_triedWays 1 = .ok (.lstore_n 3, 1) := by decide +kernel
theorem dX5_triedWays_2 : decode cX5_triedWays 2 = .ok (.iconst 0, 1) := by decide +kernel
theorem dX5_triedWays_3 : decode cX5_triedWays 3 = .ok (.istore 5, 2) := by decide +kernel
theorem dX5_triedWays_5 : decode cX5_triedWays 5 = .ok (.iload 5, 2) := by decide +kernel
theorem dX5_triedWays_7 : decode cX5_triedWays 7 = .ok (.aload_n 0, 1) := by decide +kernel
theorem dX5_triedWays_8 : decode cX5_triedWays 8 = .ok (.getfield 72, 3) := by decide +kernel
theorem dX5_triedWays_11 : decode cX5_triedWays 11 = .ok (.if_icmp .ge 81, 3) := by decide +kernel
theorem dX5_triedWays_14 : decode cX5_triedWays 14 = .ok (.aload_n 0, 1) := by decide +kernel
theorem dX5_triedWays_15 : decode cX5_triedWays 15 = .ok (.getfield 13, 3) := by decide +kernel
theorem dX5_triedWays_18 : decode cX5_triedWays 18 = .ok (.iconst 3, 1) := by decide +kernel
theorem dX5_triedWays_19 : decode cX5_triedWays 19 = .ok (.iload_n 1, 1) := by decide +kernel
theorem dX5_triedWays_20 : decode cX5_triedWays 20 = .ok (.imul, 1) := by decide +kernel
theorem dX5_triedWays_21 : decode cX5_triedWays 21 = .ok (.iaload, 1) := by decide +kernel
theorem dX5_triedWays_22 : decode cX5_triedWays 22 = .ok (.iload_n 2, 1) := by decide +kernel
theorem dX5_triedWays_23 : decode cX5_triedWays 23 = .ok (.aload_n 0, 1) := by decide +kernel
theorem dX5_triedWays_24 : decode cX5_triedWays 24 = .ok (.getfield 25, 3) := by decide +kernel
theorem dX5_triedWays_27 : decode cX5_triedWays 27 = .ok (.iconst 3, 1) := by decide +kernel
theorem dX5_triedWays_28 : decode cX5_triedWays 28 = .ok (.iload 5, 2) := by decide +kernel
theorem dX5_triedWays_30 : decode cX5_triedWays 30 = .ok (.imul, 1) := by decide +kernel
theorem dX5_triedWays_31 : decode cX5_triedWays 31 = .ok (.iconst 1, 1) := by decide +kernel
theorem dX5_triedWays_32 : decode cX5_triedWays 32 = .ok (.iadd, 1) := by decide +kernel
theorem dX5_triedWays_33 : decode cX5_triedWays 33 = .ok (.iaload, 1) := by decide +kernel
theorem dX5_triedWays_34 : decode cX5_triedWays 34 = .ok (.invokestatic 78, 3) := by decide +kernel
theorem dX5_triedWays_37 : decode cX5_triedWays 37 = .ok (.istore 6, 2) := by decide +kernel
theorem dX5_triedWays_39 : decode cX5_triedWays 39 = .ok (.lload_n 3, 1) := by decide +kernel
theorem dX5_triedWays_40 : decode cX5_triedWays 40 = .ok (.aload_n 0, 1) := by decide +kernel
theorem dX5_triedWays_41 : decode cX5_triedWays 41 = .ok (.getfield 25, 3) := by decide +kernel
theorem dX5_triedWays_44 : decode cX5_triedWays 44 = .ok (.iconst 3, 1) := by decide +kernel
theorem dX5_triedWays_45 : decode cX5_triedWays 45 = .ok (.iload 5, 2) := by decide +kernel
theorem dX5_triedWays_47 : decode cX5_triedWays 47 = .ok (.imul, 1) := by decide +kernel
theorem dX5_triedWays_48 : decode cX5_triedWays 48 = .ok (.iaload, 1) := by decide +kernel
theorem dX5_triedWays_49 : decode cX5_triedWays 49 = .ok (.iload_n 1, 1) := by decide +kernel
theorem dX5_triedWays_50 : decode cX5_triedWays 50 = .ok (.if_icmp .eq 7, 3) := by decide +kernel
theorem dX5_triedWays_53 : decode cX5_triedWays 53 = .ok (.lconst 1, 1) := by decide +kernel
theorem dX5_triedWays_54 : decode cX5_triedWays 54 = .ok (.goto 30, 3) := by decide +kernel
theorem dX5_triedWays_57 : decode cX5_triedWays 57 = .ok (.aload_n 0, 1) := by decide +kernel
theorem dX5_triedWays_58 : decode cX5_triedWays 58 = .ok (.getfield 25, 3) := by decide +kernel
theorem dX5_triedWays_61 : decode cX5_triedWays 61 = .ok (.iconst 3, 1) := by decide +kernel
theorem dX5_triedWays_62 : decode cX5_triedWays 62 = .ok (.iload 5, 2) := by decide +kernel
theorem dX5_triedWays_64 : decode cX5_triedWays 64 = .ok (.imul, 1) := by decide +kernel
theorem dX5_triedWays_65 : decode cX5_triedWays 65 = .ok (.iconst 2, 1) := by decide +kernel
theorem dX5_triedWays_66 : decode cX5_triedWays 66 = .ok (.iadd, 1) := by decide +kernel
theorem dX5_triedWays_67 : decode cX5_triedWays 67 = .ok (.iaload, 1) := by decide +kernel
theorem dX5_triedWays_68 : decode cX5_triedWays 68 = .ok (.iconst 1, 1) := by decide +kernel
theorem dX5_triedWays_69 : decode cX5_triedWays 69 = .ok (.if_icmp .ne 9, 3) := by decide +kernel
theorem dX5_triedWays_72 : decode cX5_triedWays 72 = .ok (.iload 6, 2) := by decide +kernel
theorem dX5_triedWays_74 : decode cX5_triedWays 74 = .ok (.i2l, 1) := by decide +kernel
theorem dX5_triedWays_75 : decode cX5_triedWays 75 = .ok (.goto 9, 3) := by decide +kernel
theorem dX5_triedWays_78 : decode cX5_triedWays 78 = .ok (.bipush 10, 2) := by decide +kernel
theorem dX5_triedWays_80 : decode cX5_triedWays 80 = .ok (.iload 6, 2) := by decide +kernel
theorem dX5_triedWays_82 : decode cX5_triedWays 82 = .ok (.isub, 1) := by decide +kernel
theorem dX5_triedWays_83 : decode cX5_triedWays 83 = .ok (.i2l, 1) := by decide +kernel
theorem dX5_triedWays_84 : decode cX5_triedWays 84 = .ok (.lmul, 1) := by decide +kernel
theorem dX5_triedWays_85 : decode cX5_triedWays 85 = .ok (.lstore_n 3, 1) := by decide +kernel
theorem dX5_triedWays_86 : decode cX5_triedWays 86 = .ok (.iinc 5 1, 3) := by decide +kernel
theorem dX5_triedWays_89 : decode cX5_triedWays 89 = .ok (.goto (-84), 3) := by decide +kernel
theorem dX5_triedWays_92 : decode cX5_triedWays 92 = .ok (.lload_n 3, 1) := by decide +kernel
theorem dX5_triedWays_93 : decode cX5_triedWays 93 = .ok (.lreturn, 1) := by decide +kernel
theorem dX5_sureOf_0 : decode cX5_sureOf 0 = .ok (.iconst 0, 1) := by decide +kernel
theorem dX5_sureOf_1 : decode cX5_sureOf 1 = .ok (.istore_n 2, 1) := by decide +kernel
theorem dX5_sureOf_2 : decode cX5_sureOf 2 = .ok (.iconst 1, 1) := by decide +kernel
theorem dX5_sureOf_3 : decode cX5_sureOf 3 = .ok (.istore_n 3, 1) := by decide +kernel
theorem dX5_sureOf_4 : decode cX5_sureOf 4 = .ok (.iload_n 3, 1) := by decide +kernel
theorem dX5_sureOf_5 : decode cX5_sureOf 5 = .ok (.bipush 10, 2) := by decide +kernel
theorem dX5_sureOf_7 : decode cX5_sureOf 7 = .ok (.if_icmp .ge 32, 3) := by decide +kernel
theorem dX5_sureOf_10 : decode cX5_sureOf 10 = .ok (.iload_n 2, 1) := by decide +kernel
theorem dX5_sureOf_11 : decode cX5_sureOf 11 = .ok (.aload_n 0, 1) := by decide +kernel
theorem dX5_sureOf_12 : decode cX5_sureOf 12 = .ok (.iload_n 1, 1) := by decide +kernel
theorem dX5_sureOf_13 : decode cX5_sureOf 13 = .ok (.iload_n 3, 1) := by decide +kernel
theorem dX5_sureOf_14 : decode cX5_sureOf 14 = .ok (.invokevirtual 173, 3) := by decide +kernel
theorem dX5_sureOf_17 : decode cX5_sureOf 17 = .ok (.lconst 0, 1) := by decide +kernel
theorem dX5_sureOf_18 : decode cX5_sureOf 18 = .ok (.lcmp, 1) := by decide +kernel
theorem dX5_sureOf_19 : decode cX5_sureOf 19 = .ok (.ifCond .le 11, 3) := by decide +kernel
theorem dX5_sureOf_22 : decode cX5_sureOf 22 = .ok (.iconst 1, 1) := by decide +kernel
theorem dX5_sureOf_23 : decode cX5_sureOf 23 = .ok (.iload_n 3, 1) := by decide +kernel
theorem dX5_sureOf_24 : decode cX5_sureOf 24 = .ok (.iconst 1, 1) := by decide +kernel
theorem dX5_sureOf_25 : decode cX5_sureOf 25 = .ok (.isub, 1) := by decide +kernel
theorem dX5_sureOf_26 : decode cX5_sureOf 26 = .ok (.ishl, 1) := by decide +kernel
theorem dX5_sureOf_27 : decode cX5_sureOf 27 = .ok (.goto 4, 3) := by decide +kernel
theorem dX5_sureOf_30 : decode cX5_sureOf 30 = .ok (.iconst 0, 1) := by decide +kernel
theorem dX5_sureOf_31 : decode cX5_sureOf 31 = .ok (.ior, 1) := by decide +kernel
theorem dX5_sureOf_32 : decode cX5_sureOf 32 = .ok (.istore_n 2, 1) := by decide +kernel
theorem dX5_sureOf_33 : decode cX5_sureOf 33 = .ok (.iinc 3 1, 3) := by decide +kernel
theorem dX5_sureOf_36 : decode cX5_sureOf 36 = .ok (.goto (-32), 3) := by decide +kernel
theorem dX5_sureOf_39 : decode cX5_sureOf 39 = .ok (.iload_n 2, 1) := by decide +kernel
theorem dX5_sureOf_40 : decode cX5_sureOf 40 = .ok (.ireturn, 1) := by decide +kernel
theorem dX5_likelyOf_0 : decode cX5_likelyOf 0 = .ok (.iconst (-1), 1) := by decide +kernel
theorem dX5_likelyOf_1 : decode cX5_likelyOf 1 = .ok (.istore_n 2, 1) := by decide +kernel
theorem dX5_likelyOf_2 : decode cX5_likelyOf 2 = .ok (.lconst 0, 1) := by decide +kernel
theorem dX5_likelyOf_3 : decode cX5_likelyOf 3 = .ok (.lstore_n 3, 1) := by decide +kernel
theorem dX5_likelyOf_4 : decode cX5_likelyOf 4 = .ok (.iconst 1, 1) := by decide +kernel
theorem dX5_likelyOf_5 : decode cX5_likelyOf 5 = .ok (.istore 5, 2) := by decide +kernel
theorem dX5_likelyOf_7 : decode cX5_likelyOf 7 = .ok (.iload 5, 2) := by decide +kernel
theorem dX5_likelyOf_9 : decode cX5_likelyOf 9 = .ok (.bipush 10, 2) := by decide +kernel
theorem dX5_likelyOf_11 : decode cX5_likelyOf 11 = .ok (.if_icmp .ge 46, 3) := by decide +kernel
theorem dX5_likelyOf_14 : decode cX5_likelyOf 14 = .ok (.aload_n 0, 1) := by decide +kernel
theorem dX5_likelyOf_15 : decode cX5_likelyOf 15 = .ok (.iload_n 1, 1) := by decide +kernel
theorem dX5_likelyOf_16 : decode cX5_likelyOf 16 = .ok (.iload 5, 2) := by decide +kernel
theorem dX5_likelyOf_18 : decode cX5_likelyOf 18 = .ok (.invokevirtual 173, 3) := by decide +kernel
theorem dX5_likelyOf_21 : decode cX5_likelyOf 21 = .ok (.lstore 6, 2) := by decide +kernel
theorem dX5_likelyOf_23 : decode cX5_likelyOf 23 = .ok (.lload 6, 2) := by decide +kernel
theorem dX5_likelyOf_25 : decode cX5_likelyOf 25 = .ok (.lload_n 3, 1) := by decide +kernel
theorem dX5_likelyOf_26 : decode cX5_likelyOf 26 = .ok (.lcmp, 1) := by decide +kernel
theorem dX5_likelyOf_27 : decode cX5_likelyOf 27 = .ok (.ifCond .le 8, 3) := by decide +kernel
theorem dX5_likelyOf_30 : decode cX5_likelyOf 30 = .ok (.iload 5, 2) := by decide +kernel
theorem dX5_likelyOf_32 : decode cX5_likelyOf 32 = .ok (.goto 4, 3) := by decide +kernel
theorem dX5_likelyOf_35 : decode cX5_likelyOf 35 = .ok (.iload_n 2, 1) := by decide +kernel
theorem dX5_likelyOf_36 : decode cX5_likelyOf 36 = .ok (.istore_n 2, 1) := by decide +kernel
theorem dX5_likelyOf_37 : decode cX5_likelyOf 37 = .ok (.lload 6, 2) := by decide +kernel
theorem dX5_likelyOf_39 : decode cX5_likelyOf 39 = .ok (.lload_n 3, 1) := by decide +kernel
theorem dX5_likelyOf_40 : decode cX5_likelyOf 40 = .ok (.lcmp, 1) := by decide +kernel
theorem dX5_likelyOf_41 : decode cX5_likelyOf 41 = .ok (.ifCond .le 8, 3) := by decide +kernel
theorem dX5_likelyOf_44 : decode cX5_likelyOf 44 = .ok (.lload 6, 2) := by decide +kernel
theorem dX5_likelyOf_46 : decode cX5_likelyOf 46 = .ok (.goto 4, 3) := by decide +kernel
theorem dX5_likelyOf_49 : decode cX5_likelyOf 49 = .ok (.lload_n 3, 1) := by decide +kernel
theorem dX5_likelyOf_50 : decode cX5_likelyOf 50 = .ok (.lstore_n 3, 1) := by decide +kernel
theorem dX5_likelyOf_51 : decode cX5_likelyOf 51 = .ok (.iinc 5 1, 3) := by decide +kernel
theorem dX5_likelyOf_54 : decode cX5_likelyOf 54 = .ok (.goto (-47), 3) := by decide +kernel
theorem dX5_likelyOf_57 : decode cX5_likelyOf 57 = .ok (.iload_n 2, 1) := by decide +kernel
theorem dX5_likelyOf_58 : decode cX5_likelyOf 58 = .ok (.ireturn, 1) := by decide +kernel
theorem dX5_draw_0 : decode cX5_draw 0 = .ok (.aload_n 0, 1) := by decide +kernel
theorem dX5_draw_1 : decode cX5_draw 1 = .ok (.ldc2_w 177, 3) := by decide +kernel
theorem dX5_draw_4 : decode cX5_draw 4 = .ok (.aload_n 0, 1) := by decide +kernel
theorem dX5_draw_5 : decode cX5_draw 5 = .ok (.getfield 179, 3) := by decide +kernel
theorem dX5_draw_8 : decode cX5_draw 8 = .ok (.i2l, 1) := by decide +kernel
theorem dX5_draw_9 : decode cX5_draw 9 = .ok (.lmul, 1) := by decide +kernel
theorem dX5_draw_10 : decode cX5_draw 10 = .ok (.ldc2_w 182, 3) := by decide +kernel
theorem dX5_draw_13 : decode cX5_draw 13 = .ok (.ladd, 1) := by decide +kernel
theorem dX5_draw_14 : decode cX5_draw 14 = .ok (.ldc2_w 184, 3) := by decide +kernel
theorem dX5_draw_17 : decode cX5_draw 17 = .ok (.land, 1) := by decide +kernel
theorem dX5_draw_18 : decode cX5_draw 18 = .ok (.l2i, 1) := by decide +kernel
theorem dX5_draw_19 : decode cX5_draw 19 = .ok (.putfield 179, 3) := by decide +kernel
theorem dX5_draw_22 : decode cX5_draw 22 = .ok (.aload_n 0, 1) := by decide +kernel
theorem dX5_draw_23 : decode cX5_draw 23 = .ok (.getfield 179, 3) := by decide +kernel
theorem dX5_draw_26 : decode cX5_draw 26 = .ok (.ldc 186, 2) := by decide +kernel
theorem dX5_draw_28 : decode cX5_draw 28 = .ok (.idiv, 1) := by decide +kernel
theorem dX5_draw_29 : decode cX5_draw 29 = .ok (.iload_n 1, 1) := by decide +kernel
theorem dX5_draw_30 : decode cX5_draw 30 = .ok (.irem, 1) := by decide +kernel
theorem dX5_draw_31 : decode cX5_draw 31 = .ok (.ireturn, 1) := by decide +kernel
theorem dX5_meets_0 : decode cX5_meets 0 = .ok (.iload_n 1, 1) := by decide +kernel
theorem dX5_meets_1 : decode cX5_meets 1 = .ok (.i2l, 1) := by decide +kernel
theorem dX5_meets_2 : decode cX5_meets 2 = .ok (.lconst 1, 1) := by decide +kernel
theorem dX5_meets_3 : decode cX5_meets 3 = .ok (.ldc2_w 187, 3) := by decide +kernel
theorem dX5_meets_6 : decode cX5_meets 6 = .ok (.invokestatic 40, 3) := by decide +kernel
theorem dX5_meets_9 : decode cX5_meets 9 = .ok (.ifCond .eq 19, 3) := by decide +kernel
theorem dX5_meets_12 : decode cX5_meets 12 = .ok (.iload_n 2, 1) := by decide +kernel
theorem dX5_meets_13 : decode cX5_meets 13 = .ok (.ifCond .lt 15, 3) := by decide +kernel
theorem dX5_meets_16 : decode cX5_meets 16 = .ok (.iload_n 3, 1) := by decide +kernel
theorem dX5_meets_17 : decode cX5_meets 17 = .ok (.i2l, 1) := by decide +kernel
theorem dX5_meets_18 : decode cX5_meets 18 = .ok (.lconst 0, 1) := by decide +kernel
theorem dX5_meets_19 : decode cX5_meets 19 = .ok (.ldc2_w 189, 3) := by decide +kernel
theorem dX5_meets_22 : decode cX5_meets 22 = .ok (.invokestatic 40, 3) := by decide +kernel
theorem dX5_meets_25 : decode cX5_meets 25 = .ok (.ifCond .ne 6, 3) := by decide +kernel
theorem dX5_meets_28 : decode cX5_meets 28 = .ok (.bipush (-102), 2) := by decide +kernel
theorem dX5_meets_30 : decode cX5_meets 30 = .ok (.ireturn, 1) := by decide +kernel
theorem dX5_meets_31 : decode cX5_meets 31 = .ok (.aload_n 0, 1) := by decide +kernel
theorem dX5_meets_32 : decode cX5_meets 32 = .ok (.invokevirtual 117, 3) := by decide +kernel
theorem dX5_meets_35 : decode cX5_meets 35 = .ok (.ifCond .eq 6, 3) := by decide +kernel
theorem dX5_meets_38 : decode cX5_meets 38 = .ok (.bipush (-103), 2) := by decide +kernel
theorem dX5_meets_40 : decode cX5_meets 40 = .ok (.ireturn, 1) := by decide +kernel
theorem dX5_meets_41 : decode cX5_meets 41 = .ok (.aload_n 0, 1) := by decide +kernel
theorem dX5_meets_42 : decode cX5_meets 42 = .ok (.iload_n 2, 1) := by decide +kernel
theorem dX5_meets_43 : decode cX5_meets 43 = .ok (.putfield 179, 3) := by decide +kernel
theorem dX5_meets_46 : decode cX5_meets 46 = .ok (.iconst 0, 1) := by decide +kernel
theorem dX5_meets_47 : decode cX5_meets 47 = .ok (.istore 4, 2) := by decide +kernel
theorem dX5_meets_49 : decode cX5_meets 49 = .ok (.sipush 20000, 3) := by decide +kernel
theorem dX5_meets_52 : decode cX5_meets 52 = .ok (.istore 5, 2) := by decide +kernel
theorem dX5_meets_54 : decode cX5_meets 54 = .ok (.iconst 0, 1) := by decide +kernel
theorem dX5_meets_55 : decode cX5_meets 55 = .ok (.istore 6, 2) := by decide +kernel
theorem dX5_meets_57 : decode cX5_meets 57 = .ok (.iload 6, 2) := by decide +kernel
theorem dX5_meets_59 : decode cX5_meets 59 = .ok (.iload_n 1, 1) := by decide +kernel
theorem dX5_meets_60 : decode cX5_meets 60 = .ok (.if_icmp .ge 99, 3) := by decide +kernel
theorem dX5_meets_63 : decode cX5_meets 63 = .ok (.iconst 0, 1) := by decide +kernel
theorem dX5_meets_64 : decode cX5_meets 64 = .ok (.istore 7, 2) := by decide +kernel
theorem dX5_meets_66 : decode cX5_meets 66 = .ok (.iconst 0, 1) := by decide +kernel
theorem dX5_meets_67 : decode cX5_meets 67 = .ok (.istore 8, 2) := by decide +kernel
theorem dX5_meets_69 : decode cX5_meets 69 = .ok (.iload 8, 2) := by decide +kernel
theorem dX5_meets_71 : decode cX5_meets 71 = .ok (.aload_n 0, 1) := by decide +kernel
theorem dX5_meets_72 : decode cX5_meets 72 = .ok (.getfield 66, 3) := by decide +kernel
theorem dX5_meets_75 : decode cX5_meets 75 = .ok (.if_icmp .ge 44, 3) := by decide +kernel
theorem dX5_meets_78 : decode cX5_meets 78 = .ok (.iload 7, 2) := by decide +kernel
theorem dX5_meets_80 : decode cX5_meets 80 = .ok (.aload_n 0, 1) := by decide +kernel
theorem dX5_meets_81 : decode cX5_meets 81 = .ok (.bipush 10, 2) := by decide +kernel
theorem dX5_meets_83 : decode cX5_meets 83 = .ok (.invokevirtual 191, 3) := by decide +kernel
theorem dX5_meets_86 : decode cX5_meets 86 = .ok (.aload_n 0, 1) := by decide +kernel
theorem dX5_meets_87 : decode cX5_meets 87 = .ok (.aload_n 0, 1) := by decide +kernel
theorem dX5_meets_88 : decode cX5_meets 88 = .ok (.getfield 16, 3) := by decide +kernel
theorem dX5_meets_91 : decode cX5_meets 91 = .ok (.iload 8, 2) := by decide +kernel
theorem dX5_meets_93 : decode cX5_meets 93 = .ok (.iaload, 1) := by decide +kernel
theorem dX5_meets_94 : decode cX5_meets 94 = .ok (.iload 8, 2) := by decide +kernel
theorem dX5_meets_96 : decode cX5_meets 96 = .ok (.invokevirtual 85, 3) := by decide +kernel
theorem dX5_meets_99 : decode cX5_meets 99 = .ok (.if_icmp .ge 7, 3) := by decide +kernel
theorem dX5_meets_102 : decode cX5_meets 102 = .ok (.iconst 0, 1) := by decide +kernel
theorem dX5_meets_103 : decode cX5_meets 103 = .ok (.goto 7, 3) := by decide +kernel
theorem dX5_meets_106 : decode cX5_meets 106 = .ok (.iconst 1, 1) := by decide +kernel
theorem dX5_meets_107 : decode cX5_meets 107 = .ok (.iload 8, 2) := by decide +kernel
theorem dX5_meets_109 : decode cX5_meets 109 = .ok (.ishl, 1) := by decide +kernel
theorem dX5_meets_110 : decode cX5_meets 110 = .ok (.ior, 1) := by decide +kernel
theorem dX5_meets_111 : decode cX5_meets 111 = .ok (.istore 7, 2) := by decide +kernel
theorem dX5_meets_113 : decode cX5_meets 113 = .ok (.iinc 8 1, 3) := by decide +kernel
theorem dX5_meets_116 : decode cX5_meets 116 = .ok (.goto (-47), 3) := by decide +kernel
theorem dX5_meets_119 : decode cX5_meets 119 = .ok (.iload 4, 2) := by decide +kernel
theorem dX5_meets_121 : decode cX5_meets 121 = .ok (.iload 7, 2) := by decide +kernel
theorem dX5_meets_123 : decode cX5_meets 123 = .ok (.ifCond .ne 7, 3) := by decide +kernel
theorem dX5_meets_126 : decode cX5_meets 126 = .ok (.iconst 1, 1) := by decide +kernel
theorem dX5_meets_127 : decode cX5_meets 127 = .ok (.goto 4, 3) := by decide +kernel
theorem dX5_meets_130 : decode cX5_meets 130 = .ok (.iconst 0, 1) := by decide +kernel
theorem dX5_meets_131 : decode cX5_meets 131 = .ok (.iadd, 1) := by decide +kernel
theorem dX5_meets_132 : decode cX5_meets 132 = .ok (.istore 4, 2) := by decide +kernel
theorem dX5_meets_134 : decode cX5_meets 134 = .ok (.iload 5, 2) := by decide +kernel
theorem dX5_meets_136 : decode cX5_meets 136 = .ok (.aload_n 0, 1) := by decide +kernel
theorem dX5_meets_137 : decode cX5_meets 137 = .ok (.aload_n 0, 1) := by decide +kernel
theorem dX5_meets_138 : decode cX5_meets 138 = .ok (.getfield 16, 3) := by decide +kernel
theorem dX5_meets_141 : decode cX5_meets 141 = .ok (.aload_n 0, 1) := by decide +kernel
theorem dX5_meets_142 : decode cX5_meets 142 = .ok (.getfield 66, 3) := by decide +kernel
theorem dX5_meets_145 : decode cX5_meets 145 = .ok (.iload 7, 2) := by decide +kernel
theorem dX5_meets_147 : decode cX5_meets 147 = .ok (.invokevirtual 121, 3) := by decide +kernel
theorem dX5_meets_150 : decode cX5_meets 150 = .ok (.iadd, 1) := by decide +kernel
theorem dX5_meets_151 : decode cX5_meets 151 = .ok (.istore 5, 2) := by decide +kernel
theorem dX5_meets_153 : decode cX5_meets 153 = .ok (.iinc 6 1, 3) := by decide +kernel
theorem dX5_meets_156 : decode cX5_meets 156 = .ok (.goto (-99), 3) := by decide +kernel
theorem dX5_meets_159 : decode cX5_meets 159 = .ok (.iload_n 3, 1) := by decide +kernel
theorem dX5_meets_160 : decode cX5_meets 160 = .ok (.ifCond .ne 8, 3) := by decide +kernel
theorem dX5_meets_163 : decode cX5_meets 163 = .ok (.iload 4, 2) := by decide +kernel
theorem dX5_meets_165 : decode cX5_meets 165 = .ok (.goto 17, 3) := by decide +kernel
theorem dX5_meets_168 : decode cX5_meets 168 = .ok (.iload_n 3, 1) := by decide +kernel
theorem dX5_meets_169 : decode cX5_meets 169 = .ok (.iconst 1, 1) := by decide +kernel
theorem dX5_meets_170 : decode cX5_meets 170 = .ok (.if_icmp .ne 8, 3) := by decide +kernel
theorem dX5_meets_173 : decode cX5_meets 173 = .ok (.iload 5, 2) := by decide +kernel
theorem dX5_meets_175 : decode cX5_meets 175 = .ok (.goto 7, 3) := by decide +kernel
theorem dX5_meets_178 : decode cX5_meets 178 = .ok (.aload_n 0, 1) := by decide +kernel
theorem dX5_meets_179 : decode cX5_meets 179 = .ok (.getfield 179, 3) := by decide +kernel
theorem dX5_meets_182 : decode cX5_meets 182 = .ok (.ireturn, 1) := by decide +kernel
theorem dX5_image_0 : decode cX5_image 0 = .ok (.aload_n 0, 1) := by decide +kernel
theorem dX5_image_1 : decode cX5_image 1 = .ok (.invokevirtual 117, 3) := by decide +kernel
theorem dX5_image_4 : decode cX5_image 4 = .ok (.ifCond .eq 6, 3) := by decide +kernel
theorem dX5_image_7 : decode cX5_image 7 = .ok (.bipush (-103), 2) := by decide +kernel
theorem dX5_image_9 : decode cX5_image 9 = .ok (.ireturn, 1) := by decide +kernel
theorem dX5_image_10 : decode cX5_image 10 = .ok (.aload_n 0, 1) := by decide +kernel
theorem dX5_image_11 : decode cX5_image 11 = .ok (.getfield 16, 3) := by decide +kernel
theorem dX5_image_14 : decode cX5_image 14 = .ok (.aload_n 0, 1) := by decide +kernel
theorem dX5_image_15 : decode cX5_image 15 = .ok (.getfield 28, 3) := by decide +kernel
theorem dX5_image_18 : decode cX5_image 18 = .ok (.invokestatic 154, 3) := by decide +kernel
theorem dX5_image_21 : decode cX5_image 21 = .ok (.aload_n 0, 1) := by decide +kernel
theorem dX5_image_22 : decode cX5_image 22 = .ok (.getfield 25, 3) := by decide +kernel
theorem dX5_image_25 : decode cX5_image 25 = .ok (.aload_n 0, 1) := by decide +kernel
theorem dX5_image_26 : decode cX5_image 26 = .ok (.getfield 31, 3) := by decide +kernel
theorem dX5_image_29 : decode cX5_image 29 = .ok (.invokestatic 154, 3) := by decide +kernel
theorem dX5_image_32 : decode cX5_image 32 = .ok (.aload_n 0, 1) := by decide +kernel
theorem dX5_image_33 : decode cX5_image 33 = .ok (.aload_n 0, 1) := by decide +kernel
theorem dX5_image_34 : decode cX5_image 34 = .ok (.getfield 66, 3) := by decide +kernel
theorem dX5_image_37 : decode cX5_image 37 = .ok (.putfield 194, 3) := by decide +kernel
theorem dX5_image_40 : decode cX5_image 40 = .ok (.aload_n 0, 1) := by decide +kernel
theorem dX5_image_41 : decode cX5_image 41 = .ok (.aload_n 0, 1) := by decide +kernel
theorem dX5_image_42 : decode cX5_image 42 = .ok (.getfield 69, 3) := by decide +kernel
theorem dX5_image_45 : decode cX5_image 45 = .ok (.putfield 197, 3) := by decide +kernel
theorem dX5_image_48 : decode cX5_image 48 = .ok (.aload_n 0, 1) := by decide +kernel
theorem dX5_image_49 : decode cX5_image 49 = .ok (.aload_n 0, 1) := by decide +kernel
theorem dX5_image_50 : decode cX5_image 50 = .ok (.getfield 72, 3) := by decide +kernel
theorem dX5_image_53 : decode cX5_image 53 = .ok (.putfield 200, 3) := by decide +kernel
theorem dX5_image_56 : decode cX5_image 56 = .ok (.aload_n 0, 1) := by decide +kernel
theorem dX5_image_57 : decode cX5_image 57 = .ok (.aload_n 0, 1) := by decide +kernel
theorem dX5_image_58 : decode cX5_image 58 = .ok (.getfield 75, 3) := by decide +kernel
theorem dX5_image_61 : decode cX5_image 61 = .ok (.putfield 34, 3) := by decide +kernel
theorem dX5_image_64 : decode cX5_image 64 = .ok (.aload_n 0, 1) := by decide +kernel
theorem dX5_image_65 : decode cX5_image 65 = .ok (.getfield 69, 3) := by decide +kernel
theorem dX5_image_68 : decode cX5_image 68 = .ok (.ireturn, 1) := by decide +kernel
theorem dX5_restore_0 : decode cX5_restore 0 = .ok (.aload_n 0, 1) := by decide +kernel
theorem dX5_restore_1 : decode cX5_restore 1 = .ok (.getfield 34, 3) := by decide +kernel
theorem dX5_restore_4 : decode cX5_restore 4 = .ok (.aload_n 0, 1) := by decide +kernel
theorem dX5_restore_5 : decode cX5_restore 5 = .ok (.getfield 75, 3) := by decide +kernel
theorem dX5_restore_8 : decode cX5_restore 8 = .ok (.if_icmp .eq 6, 3) := by decide +kernel
theorem dX5_restore_11 : decode cX5_restore 11 = .ok (.bipush (-103), 2) := by decide +kernel
theorem dX5_restore_13 : decode cX5_restore 13 = .ok (.ireturn, 1) := by decide +kernel
theorem dX5_restore_14 : decode cX5_restore 14 = .ok (.aload_n 0, 1) := by decide +kernel
theorem dX5_restore_15 : decode cX5_restore 15 = .ok (.getfield 28, 3) := by decide +kernel
theorem dX5_restore_18 : decode cX5_restore 18 = .ok (.aload_n 0, 1) := by decide +kernel
theorem dX5_restore_19 : decode cX5_restore 19 = .ok (.getfield 16, 3) := by decide +kernel
theorem dX5_restore_22 : decode cX5_restore 22 = .ok (.invokestatic 154, 3) := by decide +kernel
theorem dX5_restore_25 : decode cX5_restore 25 = .ok (.aload_n 0, 1) := by decide +kernel
theorem dX5_restore_26 : decode cX5_restore 26 = .ok (.getfield 31, 3) := by decide +kernel
theorem dX5_restore_29 : decode cX5_restore 29 = .ok (.aload_n 0, 1) := by decide +kernel
theorem dX5_restore_30 : decode cX5_restore 30 = .ok (.getfield 25, 3) := by decide +kernel
theorem dX5_restore_33 : decode cX5_restore 33 = .ok (.invokestatic 154, 3) := by decide +kernel
theorem dX5_restore_36 : decode cX5_restore 36 = .ok (.aload_n 0, 1) := by decide +kernel
theorem dX5_restore_37 : decode cX5_restore 37 = .ok (.aload_n 0, 1) := by decide +kernel
theorem dX5_restore_38 : decode cX5_restore 38 = .ok (.getfield 194, 3) := by decide +kernel
theorem dX5_restore_41 : decode cX5_restore 41 = .ok (.putfield 66, 3) := by decide +kernel
theorem dX5_restore_44 : decode cX5_restore 44 = .ok (.aload_n 0, 1) := by decide +kernel
theorem dX5_restore_45 : decode cX5_restore 45 = .ok (.aload_n 0, 1) := by decide +kernel
theorem dX5_restore_46 : decode cX5_restore 46 = .ok (.getfield 197, 3) := by decide +kernel
theorem dX5_restore_49 : decode cX5_restore 49 = .ok (.putfield 69, 3) := by decide +kernel
theorem dX5_restore_52 : decode cX5_restore 52 = .ok (.aload_n 0, 1) := by decide +kernel
theorem dX5_restore_53 : decode cX5_restore 53 = .ok (.aload_n 0, 1) := by decide +kernel
theorem dX5_restore_54 : decode cX5_restore 54 = .ok (.getfield 200, 3) := by decide +kernel
theorem dX5_restore_57 : decode cX5_restore 57 = .ok (.putfield 72, 3) := by decide +kernel
theorem dX5_restore_60 : decode cX5_restore 60 = .ok (.aload_n 0, 1) := by decide +kernel
theorem dX5_restore_61 : decode cX5_restore 61 = .ok (.getfield 69, 3) := by decide +kernel
theorem dX5_restore_64 : decode cX5_restore 64 = .ok (.ireturn, 1) := by decide +kernel
theorem dX5_flightsIn_0 : decode cX5_flightsIn 0 = .ok (.iconst 0, 1) := by decide +kernel
theorem dX5_flightsIn_1 : decode cX5_flightsIn 1 = .ok (.istore_n 1, 1) := by decide +kernel
theorem dX5_flightsIn_2 : decode cX5_flightsIn 2 = .ok (.iconst 0, 1) := by decide +kernel
theorem dX5_flightsIn_3 : decode cX5_flightsIn 3 = .ok (.istore_n 2, 1) := by decide +kernel
theorem dX5_flightsIn_4 : decode cX5_flightsIn 4 = .ok (.iload_n 2, 1) := by decide +kernel
theorem dX5_flightsIn_5 : decode cX5_flightsIn 5 = .ok (.aload_n 0, 1) := by decide +kernel
theorem dX5_flightsIn_6 : decode cX5_flightsIn 6 = .ok (.getfield 66, 3) := by decide +kernel
theorem dX5_flightsIn_9 : decode cX5_flightsIn 9 = .ok (.if_icmp .ge 30, 3) := by decide +kernel
theorem dX5_flightsIn_12 : decode cX5_flightsIn 12 = .ok (.iload_n 1, 1) := by decide +kernel
theorem dX5_flightsIn_13 : decode cX5_flightsIn 13 = .ok (.aload_n 0, 1) := by decide +kernel
theorem dX5_flightsIn_14 : decode cX5_flightsIn 14 = .ok (.aload_n 0, 1) := by decide +kernel
theorem dX5_flightsIn_15 : decode cX5_flightsIn 15 = .ok (.getfield 16, 3) := by decide +kernel
theorem dX5_flightsIn_18 : decode cX5_flightsIn 18 = .ok (.iload_n 2, 1) := by decide +kernel
theorem dX5_flightsIn_19 : decode cX5_flightsIn 19 = .ok (.iaload, 1) := by decide +kernel
theorem dX5_flightsIn_20 : decode cX5_flightsIn 20 = .ok (.invokevirtual 107, 3) := by decide +kernel
theorem dX5_flightsIn_23 : decode cX5_flightsIn 23 = .ok (.ifCond .eq 7, 3) := by decide +kernel
theorem dX5_flightsIn_26 : decode cX5_flightsIn 26 = .ok (.iconst 1, 1) := by decide +kernel
theorem dX5_flightsIn_27 : decode cX5_flightsIn 27 = .ok (.goto 4, 3) := by decide +kernel
theorem dX5_flightsIn_30 : decode cX5_flightsIn 30 = .ok (.iconst 0, 1) := by decide +kernel
theorem dX5_flightsIn_31 : decode cX5_flightsIn 31 = .ok (.iadd, 1) := by decide +kernel
theorem dX5_flightsIn_32 : decode cX5_flightsIn 32 = .ok (.istore_n 1, 1) := by decide +kernel
theorem dX5_flightsIn_33 : decode cX5_flightsIn 33 = .ok (.iinc 2 1, 3) := by decide +kernel
theorem dX5_flightsIn_36 : decode cX5_flightsIn 36 = .ok (.goto (-32), 3) := by decide +kernel
theorem dX5_flightsIn_39 : decode cX5_flightsIn 39 = .ok (.iload_n 1, 1) := by decide +kernel
theorem dX5_flightsIn_40 : decode cX5_flightsIn 40 = .ok (.ireturn, 1) := by decide +kernel
theorem dX5_turnsIn_0 : decode cX5_turnsIn 0 = .ok (.iconst 0, 1) := by decide +kernel
theorem dX5_turnsIn_1 : decode cX5_turnsIn 1 = .ok (.istore_n 1, 1) := by decide +kernel
theorem dX5_turnsIn_2 : decode cX5_turnsIn 2 = .ok (.iconst 0, 1) := by decide +kernel
theorem dX5_turnsIn_3 : decode cX5_turnsIn 3 = .ok (.istore_n 2, 1) := by decide +kernel
theorem dX5_turnsIn_4 : decode cX5_turnsIn 4 = .ok (.iload_n 2, 1) := by decide +kernel
theorem dX5_turnsIn_5 : decode cX5_turnsIn 5 = .ok (.aload_n 0, 1) := by decide +kernel
theorem dX5_turnsIn_6 : decode cX5_turnsIn 6 = .ok (.getfield 66, 3) := by decide +kernel
theorem dX5_turnsIn_9 : decode cX5_turnsIn 9 = .ok (.if_icmp .ge 30, 3) := by decide +kernel
theorem dX5_turnsIn_12 : decode cX5_turnsIn 12 = .ok (.iload_n 1, 1) := by decide +kernel
theorem dX5_turnsIn_13 : decode cX5_turnsIn 13 = .ok (.aload_n 0, 1) := by decide +kernel
theorem dX5_turnsIn_14 : decode cX5_turnsIn 14 = .ok (.aload_n 0, 1) := by decide +kernel
theorem dX5_turnsIn_15 : decode cX5_turnsIn 15 = .ok (.getfield 16, 3) := by decide +kernel
theorem dX5_turnsIn_18 : decode cX5_turnsIn 18 = .ok (.iload_n 2, 1) := by decide +kernel
theorem dX5_turnsIn_19 : decode cX5_turnsIn 19 = .ok (.iaload, 1) := by decide +kernel
theorem dX5_turnsIn_20 : decode cX5_turnsIn 20 = .ok (.invokevirtual 110, 3) := by decide +kernel
theorem dX5_turnsIn_23 : decode cX5_turnsIn 23 = .ok (.ifCond .eq 7, 3) := by decide +kernel
theorem dX5_turnsIn_26 : decode cX5_turnsIn 26 = .ok (.iconst 1, 1) := by decide +kernel
theorem dX5_turnsIn_27 : decode cX5_turnsIn 27 = .ok (.goto 4, 3) := by decide +kernel
theorem dX5_turnsIn_30 : decode cX5_turnsIn 30 = .ok (.iconst 0, 1) := by decide +kernel
theorem dX5_turnsIn_31 : decode cX5_turnsIn 31 = .ok (.iadd, 1) := by decide +kernel
theorem dX5_turnsIn_32 : decode cX5_turnsIn 32 = .ok (.istore_n 1, 1) := by decide +kernel
theorem dX5_turnsIn_33 : decode cX5_turnsIn 33 = .ok (.iinc 2 1, 3) := by decide +kernel
theorem dX5_turnsIn_36 : decode cX5_turnsIn 36 = .ok (.goto (-32), 3) := by decide +kernel
theorem dX5_turnsIn_39 : decode cX5_turnsIn 39 = .ok (.iload_n 1, 1) := by decide +kernel
theorem dX5_turnsIn_40 : decode cX5_turnsIn 40 = .ok (.ireturn, 1) := by decide +kernel
theorem dX5_joinsIn_0 : decode cX5_joinsIn 0 = .ok (.iconst 0, 1) := by decide +kernel
theorem dX5_joinsIn_1 : decode cX5_joinsIn 1 = .ok (.istore_n 1, 1) := by decide +kernel
theorem dX5_joinsIn_2 : decode cX5_joinsIn 2 = .ok (.iconst 0, 1) := by decide +kernel
theorem dX5_joinsIn_3 : decode cX5_joinsIn 3 = .ok (.istore_n 2, 1) := by decide +kernel
theorem dX5_joinsIn_4 : decode cX5_joinsIn 4 = .ok (.iload_n 2, 1) := by decide +kernel
theorem dX5_joinsIn_5 : decode cX5_joinsIn 5 = .ok (.aload_n 0, 1) := by decide +kernel
theorem dX5_joinsIn_6 : decode cX5_joinsIn 6 = .ok (.getfield 66, 3) := by decide +kernel
theorem dX5_joinsIn_9 : decode cX5_joinsIn 9 = .ok (.if_icmp .ge 33, 3) := by decide +kernel
theorem dX5_joinsIn_12 : decode cX5_joinsIn 12 = .ok (.iload_n 1, 1) := by decide +kernel
theorem dX5_joinsIn_13 : decode cX5_joinsIn 13 = .ok (.aload_n 0, 1) := by decide +kernel
theorem dX5_joinsIn_14 : decode cX5_joinsIn 14 = .ok (.aload_n 0, 1) := by decide +kernel
theorem dX5_joinsIn_15 : decode cX5_joinsIn 15 = .ok (.getfield 16, 3) := by decide +kernel
theorem dX5_joinsIn_18 : decode cX5_joinsIn 18 = .ok (.aload_n 0, 1) := by decide +kernel
theorem dX5_joinsIn_19 : decode cX5_joinsIn 19 = .ok (.getfield 66, 3) := by decide +kernel
theorem dX5_joinsIn_22 : decode cX5_joinsIn 22 = .ok (.iload_n 2, 1) := by decide +kernel
theorem dX5_joinsIn_23 : decode cX5_joinsIn 23 = .ok (.invokevirtual 113, 3) := by decide +kernel
theorem dX5_joinsIn_26 : decode cX5_joinsIn 26 = .ok (.ifCond .eq 7, 3) := by decide +kernel
theorem dX5_joinsIn_29 : decode cX5_joinsIn 29 = .ok (.iconst 1, 1) := by decide +kernel
theorem dX5_joinsIn_30 : decode cX5_joinsIn 30 = .ok (.goto 4, 3) := by decide +kernel
theorem dX5_joinsIn_33 : decode cX5_joinsIn 33 = .ok (.iconst 0, 1) := by decide +kernel
theorem dX5_joinsIn_34 : decode cX5_joinsIn 34 = .ok (.iadd, 1) := by decide +kernel
theorem dX5_joinsIn_35 : decode cX5_joinsIn 35 = .ok (.istore_n 1, 1) := by decide +kernel
theorem dX5_joinsIn_36 : decode cX5_joinsIn 36 = .ok (.iinc 2 1, 3) := by decide +kernel
theorem dX5_joinsIn_39 : decode cX5_joinsIn 39 = .ok (.goto (-35), 3) := by decide +kernel
theorem dX5_joinsIn_42 : decode cX5_joinsIn 42 = .ok (.iload_n 1, 1) := by decide +kernel
theorem dX5_joinsIn_43 : decode cX5_joinsIn 43 = .ok (.ireturn, 1) := by decide +kernel
theorem dX5_countOf_0 : decode cX5_countOf 0 = .ok (.iload_n 1, 1) := by decide +kernel
theorem dX5_countOf_1 : decode cX5_countOf 1 = .ok (.tableswitch 105 0 9 #[55, 60, 65, 70, 75, 80, 85, 90, 95, 100], 55) := by decide +kernel
theorem dX5_countOf_56 : decode cX5_countOf 56 = .ok (.aload_n 0, 1) := by decide +kernel
theorem dX5_countOf_57 : decode cX5_countOf 57 = .ok (.getfield 63, 3) := by decide +kernel
theorem dX5_countOf_60 : decode cX5_countOf 60 = .ok (.ireturn, 1) := by decide +kernel
theorem dX5_countOf_61 : decode cX5_countOf 61 = .ok (.aload_n 0, 1) := by decide +kernel
theorem dX5_countOf_62 : decode cX5_countOf 62 = .ok (.getfield 66, 3) := by decide +kernel
theorem dX5_countOf_65 : decode cX5_countOf 65 = .ok (.ireturn, 1) := by decide +kernel
theorem dX5_countOf_66 : decode cX5_countOf 66 = .ok (.aload_n 0, 1) := by decide +kernel
theorem dX5_countOf_67 : decode cX5_countOf 67 = .ok (.invokevirtual 203, 3) := by decide +kernel
theorem dX5_countOf_70 : decode cX5_countOf 70 = .ok (.ireturn, 1) := by decide +kernel
theorem dX5_countOf_71 : decode cX5_countOf 71 = .ok (.aload_n 0, 1) := by decide +kernel
theorem dX5_countOf_72 : decode cX5_countOf 72 = .ok (.invokevirtual 206, 3) := by decide +kernel
theorem dX5_countOf_75 : decode cX5_countOf 75 = .ok (.ireturn, 1) := by decide +kernel
theorem dX5_countOf_76 : decode cX5_countOf 76 = .ok (.aload_n 0, 1) := by decide +kernel
theorem dX5_countOf_77 : decode cX5_countOf 77 = .ok (.invokevirtual 209, 3) := by decide +kernel
theorem dX5_countOf_80 : decode cX5_countOf 80 = .ok (.ireturn, 1) := by decide +kernel
theorem dX5_countOf_81 : decode cX5_countOf 81 = .ok (.aload_n 0, 1) := by decide +kernel
theorem dX5_countOf_82 : decode cX5_countOf 82 = .ok (.getfield 69, 3) := by decide +kernel
theorem dX5_countOf_85 : decode cX5_countOf 85 = .ok (.ireturn, 1) := by decide +kernel
theorem dX5_countOf_86 : decode cX5_countOf 86 = .ok (.aload_n 0, 1) := by decide +kernel
theorem dX5_countOf_87 : decode cX5_countOf 87 = .ok (.getfield 72, 3) := by decide +kernel
theorem dX5_countOf_90 : decode cX5_countOf 90 = .ok (.ireturn, 1) := by decide +kernel
theorem dX5_countOf_91 : decode cX5_countOf 91 = .ok (.aload_n 0, 1) := by decide +kernel
theorem dX5_countOf_92 : decode cX5_countOf 92 = .ok (.getfield 44, 3) := by decide +kernel
theorem dX5_countOf_95 : decode cX5_countOf 95 = .ok (.ireturn, 1) := by decide +kernel
theorem dX5_countOf_96 : decode cX5_countOf 96 = .ok (.aload_n 0, 1) := by decide +kernel
theorem dX5_countOf_97 : decode cX5_countOf 97 = .ok (.getfield 75, 3) := by decide +kernel
theorem dX5_countOf_100 : decode cX5_countOf 100 = .ok (.ireturn, 1) := by decide +kernel
theorem dX5_countOf_101 : decode cX5_countOf 101 = .ok (.aload_n 0, 1) := by decide +kernel
theorem dX5_countOf_102 : decode cX5_countOf 102 = .ok (.getfield 164, 3) := by decide +kernel
theorem dX5_countOf_105 : decode cX5_countOf 105 = .ok (.ireturn, 1) := by decide +kernel
theorem dX5_countOf_106 : decode cX5_countOf 106 = .ok (.bipush (-102), 2) := by decide +kernel
theorem dX5_countOf_108 : decode cX5_countOf 108 = .ok (.ireturn, 1) := by decide +kernel
theorem dX5_count_0 : decode cX5_count 0 = .ok (.aload_n 0, 1) := by decide +kernel
theorem dX5_count_1 : decode cX5_count 1 = .ok (.iload_n 1, 1) := by decide +kernel
theorem dX5_count_2 : decode cX5_count 2 = .ok (.invokevirtual 212, 3) := by decide +kernel
theorem dX5_count_5 : decode cX5_count 5 = .ok (.ireturn, 1) := by decide +kernel
theorem dX5_say_0 : decode cX5_say 0 = .ok (.aload_n 0, 1) := by decide +kernel
theorem dX5_say_1 : decode cX5_say 1 = .ok (.ldc2_w 215, 3) := by decide +kernel
theorem dX5_say_4 : decode cX5_say 4 = .ok (.aload_n 0, 1) := by decide +kernel
theorem dX5_say_5 : decode cX5_say 5 = .ok (.getfield 217, 3) := by decide +kernel
theorem dX5_say_8 : decode cX5_say 8 = .ok (.lmul, 1) := by decide +kernel
theorem dX5_say_9 : decode cX5_say 9 = .ok (.lload_n 1, 1) := by decide +kernel
theorem dX5_say_10 : decode cX5_say 10 = .ok (.ladd, 1) := by decide +kernel
theorem dX5_say_11 : decode cX5_say 11 = .ok (.putfield 217, 3) := by decide +kernel
theorem dX5_say_14 : decode cX5_say 14 = .ok (.return_, 1) := by decide +kernel
theorem dX5_digest_0 : decode cX5_digest 0 = .ok (.aload_n 0, 1) := by decide +kernel
theorem dX5_digest_1 : decode cX5_digest 1 = .ok (.ldc2_w 221, 3) := by decide +kernel
theorem dX5_digest_4 : decode cX5_digest 4 = .ok (.putfield 217, 3) := by decide +kernel
theorem dX5_digest_7 : decode cX5_digest 7 = .ok (.iconst 0, 1) := by decide +kernel
theorem dX5_digest_8 : decode cX5_digest 8 = .ok (.istore_n 1, 1) := by decide +kernel
theorem dX5_digest_9 : decode cX5_digest 9 = .ok (.iload_n 1, 1) := by decide +kernel
theorem dX5_digest_10 : decode cX5_digest 10 = .ok (.aload_n 0, 1) := by decide +kernel
theorem dX5_digest_11 : decode cX5_digest 11 = .ok (.getfield 63, 3) := by decide +kernel
theorem dX5_digest_14 : decode cX5_digest 14 = .ok (.if_icmp .ge 34, 3) := by decide +kernel
theorem dX5_digest_17 : decode cX5_digest 17 = .ok (.iconst 0, 1) := by decide +kernel
theorem dX5_digest_18 : decode cX5_digest 18 = .ok (.istore_n 2, 1) := by decide +kernel
theorem dX5_digest_19 : decode cX5_digest 19 = .ok (.iload_n 2, 1) := by decide +kernel
theorem dX5_digest_20 : decode cX5_digest 20 = .ok (.bipush 7, 2) := by decide +kernel
theorem dX5_digest_22 : decode cX5_digest 22 = .ok (.if_icmp .ge 20, 3) := by decide +kernel
theorem dX5_digest_25 : decode cX5_digest 25 = .ok (.aload_n 0, 1) := by decide +kernel
theorem dX5_digest_26 : decode cX5_digest 26 = .ok (.aload_n 0, 1) := by decide +kernel
theorem dX5_digest_27 : decode cX5_digest 27 = .ok (.iload_n 1, 1) := by decide +kernel
theorem dX5_digest_28 : decode cX5_digest 28 = .ok (.iload_n 2, 1) := by decide +kernel
theorem dX5_digest_29 : decode cX5_digest 29 = .ok (.invokevirtual 99, 3) := by decide +kernel
theorem dX5_digest_32 : decode cX5_digest 32 = .ok (.i2l, 1) := by decide +kernel
theorem dX5_digest_33 : decode cX5_digest 33 = .ok (.invokevirtual 223, 3) := by decide +kernel
theorem dX5_digest_36 : decode cX5_digest 36 = .ok (.iinc 2 1, 3) := by decide +kernel
theorem dX5_digest_39 : decode cX5_digest 39 = .ok (.goto (-20), 3) := by decide +kernel
theorem dX5_digest_42 : decode cX5_digest 42 = .ok (.iinc 1 1, 3) := by decide +kernel
theorem dX5_digest_45 : decode cX5_digest 45 = .ok (.goto (-36), 3) := by decide +kernel
theorem dX5_digest_48 : decode cX5_digest 48 = .ok (.iconst 0, 1) := by decide +kernel
theorem dX5_digest_49 : decode cX5_digest 49 = .ok (.istore_n 1, 1) := by decide +kernel
theorem dX5_digest_50 : decode cX5_digest 50 = .ok (.iload_n 1, 1) := by decide +kernel
theorem dX5_digest_51 : decode cX5_digest 51 = .ok (.aload_n 0, 1) := by decide +kernel
theorem dX5_digest_52 : decode cX5_digest 52 = .ok (.getfield 66, 3) := by decide +kernel
theorem dX5_digest_55 : decode cX5_digest 55 = .ok (.if_icmp .ge 20, 3) := by decide +kernel
theorem dX5_digest_58 : decode cX5_digest 58 = .ok (.aload_n 0, 1) := by decide +kernel
theorem dX5_digest_59 : decode cX5_digest 59 = .ok (.aload_n 0, 1) := by decide +kernel
theorem dX5_digest_60 : decode cX5_digest 60 = .ok (.getfield 16, 3) := by decide +kernel
theorem dX5_digest_63 : decode cX5_digest 63 = .ok (.iload_n 1, 1) := by decide +kernel
theorem dX5_digest_64 : decode cX5_digest 64 = .ok (.iaload, 1) := by decide +kernel
theorem dX5_digest_65 : decode cX5_digest 65 = .ok (.i2l, 1) := by decide +kernel
theorem dX5_digest_66 : decode cX5_digest 66 = .ok (.invokevirtual 223, 3) := by decide +kernel
theorem dX5_digest_69 : decode cX5_digest 69 = .ok (.iinc 1 1, 3) := by decide +kernel
theorem dX5_digest_72 : decode cX5_digest 72 = .ok (.goto (-22), 3) := by decide +kernel
theorem dX5_digest_75 : decode cX5_digest 75 = .ok (.aload_n 0, 1) := by decide +kernel
theorem dX5_digest_76 : decode cX5_digest 76 = .ok (.invokevirtual 117, 3) := by decide +kernel
theorem dX5_digest_79 : decode cX5_digest 79 = .ok (.ifCond .ne 85, 3) := by decide +kernel
theorem dX5_digest_82 : decode cX5_digest 82 = .ok (.aload_n 0, 1) := by decide +kernel
theorem dX5_digest_83 : decode cX5_digest 83 = .ok (.aload_n 0, 1) := by decide +kernel
theorem dX5_digest_84 : decode cX5_digest 84 = .ok (.aload_n 0, 1) := by decide +kernel
theorem dX5_digest_85 : decode cX5_digest 85 = .ok (.getfield 16, 3) := by decide +kernel
theorem dX5_digest_88 : decode cX5_digest 88 = .ok (.aload_n 0, 1) := by decide +kernel
theorem dX5_digest_89 : decode cX5_digest 89 = .ok (.getfield 66, 3) := by decide +kernel
theorem dX5_digest_92 : decode cX5_digest 92 = .ok (.iconst 0, 1) := by decide +kernel
theorem dX5_digest_93 : decode cX5_digest 93 = .ok (.invokevirtual 121, 3) := by decide +kernel
theorem dX5_digest_96 : decode cX5_digest 96 = .ok (.sipush 200, 3) := by decide +kernel
theorem dX5_digest_99 : decode cX5_digest 99 = .ok (.iadd, 1) := by decide +kernel
theorem dX5_digest_100 : decode cX5_digest 100 = .ok (.i2l, 1) := by decide +kernel
theorem dX5_digest_101 : decode cX5_digest 101 = .ok (.invokevirtual 223, 3) := by decide +kernel
theorem dX5_digest_104 : decode cX5_digest 104 = .ok (.aload_n 0, 1) := by decide +kernel
theorem dX5_digest_105 : decode cX5_digest 105 = .ok (.aload_n 0, 1) := by decide +kernel
theorem dX5_digest_106 : decode cX5_digest 106 = .ok (.aload_n 0, 1) := by decide +kernel
theorem dX5_digest_107 : decode cX5_digest 107 = .ok (.getfield 16, 3) := by decide +kernel
theorem dX5_digest_110 : decode cX5_digest 110 = .ok (.aload_n 0, 1) := by decide +kernel
theorem dX5_digest_111 : decode cX5_digest 111 = .ok (.getfield 66, 3) := by decide +kernel
theorem dX5_digest_114 : decode cX5_digest 114 = .ok (.iconst 0, 1) := by decide +kernel
theorem dX5_digest_115 : decode cX5_digest 115 = .ok (.invokevirtual 138, 3) := by decide +kernel
theorem dX5_digest_118 : decode cX5_digest 118 = .ok (.i2l, 1) := by decide +kernel
theorem dX5_digest_119 : decode cX5_digest 119 = .ok (.invokevirtual 223, 3) := by decide +kernel
theorem dX5_digest_122 : decode cX5_digest 122 = .ok (.aload_n 0, 1) := by decide +kernel
theorem dX5_digest_123 : decode cX5_digest 123 = .ok (.aload_n 0, 1) := by decide +kernel
theorem dX5_digest_124 : decode cX5_digest 124 = .ok (.aload_n 0, 1) := by decide +kernel
theorem dX5_digest_125 : decode cX5_digest 125 = .ok (.getfield 16, 3) := by decide +kernel
theorem dX5_digest_128 : decode cX5_digest 128 = .ok (.aload_n 0, 1) := by decide +kernel
theorem dX5_digest_129 : decode cX5_digest 129 = .ok (.getfield 66, 3) := by decide +kernel
theorem dX5_digest_132 : decode cX5_digest 132 = .ok (.iconst 1, 1) := by decide +kernel
theorem dX5_digest_133 : decode cX5_digest 133 = .ok (.invokevirtual 138, 3) := by decide +kernel
theorem dX5_digest_136 : decode cX5_digest 136 = .ok (.i2l, 1) := by decide +kernel
theorem dX5_digest_137 : decode cX5_digest 137 = .ok (.invokevirtual 223, 3) := by decide +kernel
theorem dX5_digest_140 : decode cX5_digest 140 = .ok (.aload_n 0, 1) := by decide +kernel
theorem dX5_digest_141 : decode cX5_digest 141 = .ok (.aload_n 0, 1) := by decide +kernel
theorem dX5_digest_142 : decode cX5_digest 142 = .ok (.bipush 10, 2) := by decide +kernel
theorem dX5_digest_144 : decode cX5_digest 144 = .ok (.iconst 0, 1) := by decide +kernel
theorem dX5_digest_145 : decode cX5_digest 145 = .ok (.invokevirtual 148, 3) := by decide +kernel
theorem dX5_digest_148 : decode cX5_digest 148 = .ok (.i2l, 1) := by decide +kernel
theorem dX5_digest_149 : decode cX5_digest 149 = .ok (.invokevirtual 223, 3) := by decide +kernel
theorem dX5_digest_152 : decode cX5_digest 152 = .ok (.aload_n 0, 1) := by decide +kernel
theorem dX5_digest_153 : decode cX5_digest 153 = .ok (.aload_n 0, 1) := by decide +kernel
theorem dX5_digest_154 : decode cX5_digest 154 = .ok (.bipush 10, 2) := by decide +kernel
theorem dX5_digest_156 : decode cX5_digest 156 = .ok (.iconst 1, 1) := by decide +kernel
theorem dX5_digest_157 : decode cX5_digest 157 = .ok (.invokevirtual 148, 3) := by decide +kernel
theorem dX5_digest_160 : decode cX5_digest 160 = .ok (.i2l, 1) := by decide +kernel
theorem dX5_digest_161 : decode cX5_digest 161 = .ok (.invokevirtual 223, 3) := by decide +kernel
theorem dX5_digest_164 : decode cX5_digest 164 = .ok (.iconst 0, 1) := by decide +kernel
theorem dX5_digest_165 : decode cX5_digest 165 = .ok (.istore_n 1, 1) := by decide +kernel
theorem dX5_digest_166 : decode cX5_digest 166 = .ok (.iload_n 1, 1) := by decide +kernel
theorem dX5_digest_167 : decode cX5_digest 167 = .ok (.aload_n 0, 1) := by decide +kernel
theorem dX5_digest_168 : decode cX5_digest 168 = .ok (.getfield 44, 3) := by decide +kernel
theorem dX5_digest_171 : decode cX5_digest 171 = .ok (.if_icmp .ge 20, 3) := by decide +kernel
theorem dX5_digest_174 : decode cX5_digest 174 = .ok (.aload_n 0, 1) := by decide +kernel
theorem dX5_digest_175 : decode cX5_digest 175 = .ok (.aload_n 0, 1) := by decide +kernel
theorem dX5_digest_176 : decode cX5_digest 176 = .ok (.getfield 7, 3) := by decide +kernel
theorem dX5_digest_179 : decode cX5_digest 179 = .ok (.iload_n 1, 1) := by decide +kernel
theorem dX5_digest_180 : decode cX5_digest 180 = .ok (.iaload, 1) := by decide +kernel
theorem dX5_digest_181 : decode cX5_digest 181 = .ok (.i2l, 1) := by decide +kernel
theorem dX5_digest_182 : decode cX5_digest 182 = .ok (.invokevirtual 223, 3) := by decide +kernel
theorem dX5_digest_185 : decode cX5_digest 185 = .ok (.iinc 1 1, 3) := by decide +kernel
theorem dX5_digest_188 : decode cX5_digest 188 = .ok (.goto (-22), 3) := by decide +kernel
theorem dX5_digest_191 : decode cX5_digest 191 = .ok (.iconst 0, 1) := by decide +kernel
theorem dX5_digest_192 : decode cX5_digest 192 = .ok (.istore_n 1, 1) := by decide +kernel
theorem dX5_digest_193 : decode cX5_digest 193 = .ok (.iload_n 1, 1) := by decide +kernel
theorem dX5_digest_194 : decode cX5_digest 194 = .ok (.bipush 10, 2) := by decide +kernel
theorem dX5_digest_196 : decode cX5_digest 196 = .ok (.if_icmp .ge 19, 3) := by decide +kernel
theorem dX5_digest_199 : decode cX5_digest 199 = .ok (.aload_n 0, 1) := by decide +kernel
theorem dX5_digest_200 : decode cX5_digest 200 = .ok (.aload_n 0, 1) := by decide +kernel
theorem dX5_digest_201 : decode cX5_digest 201 = .ok (.iload_n 1, 1) := by decide +kernel
theorem dX5_digest_202 : decode cX5_digest 202 = .ok (.invokevirtual 212, 3) := by decide +kernel
theorem dX5_digest_205 : decode cX5_digest 205 = .ok (.i2l, 1) := by decide +kernel
theorem dX5_digest_206 : decode cX5_digest 206 = .ok (.invokevirtual 223, 3) := by decide +kernel
theorem dX5_digest_209 : decode cX5_digest 209 = .ok (.iinc 1 1, 3) := by decide +kernel
theorem dX5_digest_212 : decode cX5_digest 212 = .ok (.goto (-19), 3) := by decide +kernel
theorem dX5_digest_215 : decode cX5_digest 215 = .ok (.aload_n 0, 1) := by decide +kernel
theorem dX5_digest_216 : decode cX5_digest 216 = .ok (.getfield 217, 3) := by decide +kernel
theorem dX5_digest_219 : decode cX5_digest 219 = .ok (.lreturn, 1) := by decide +kernel
theorem dJ9_max_7cf53_0 : decode cJ9_max_7cf53 0 = .ok (.iload_n 0, 1) := by decide +kernel
theorem dJ9_max_7cf53_1 : decode cJ9_max_7cf53 1 = .ok (.iload_n 1, 1) := by decide +kernel
theorem dJ9_max_7cf53_2 : decode cJ9_max_7cf53 2 = .ok (.if_icmp .lt 7, 3) := by decide +kernel
theorem dJ9_max_7cf53_5 : decode cJ9_max_7cf53 5 = .ok (.iload_n 0, 1) := by decide +kernel
theorem dJ9_max_7cf53_6 : decode cJ9_max_7cf53 6 = .ok (.goto 4, 3) := by decide +kernel
theorem dJ9_max_7cf53_9 : decode cJ9_max_7cf53 9 = .ok (.iload_n 1, 1) := by decide +kernel
theorem dJ9_max_7cf53_10 : decode cJ9_max_7cf53 10 = .ok (.ireturn, 1) := by decide +kernel
theorem dL_law_0 : decode cL_law 0 = .ok (.new 7, 3) := by decide +kernel
theorem dL_law_3 : decode cL_law 3 = .ok (.dup, 1) := by decide +kernel
theorem dL_law_4 : decode cL_law 4 = .ok (.invokespecial 9, 3) := by decide +kernel
theorem dL_law_7 : decode cL_law 7 = .ok (.astore_n 1, 1) := by decide +kernel
theorem dL_law_8 : decode cL_law 8 = .ok (.new 10, 3) := by decide +kernel
theorem dL_law_11 : decode cL_law 11 = .ok (.dup, 1) := by decide +kernel
theorem dL_law_12 : decode cL_law 12 = .ok (.invokespecial 12, 3) := by decide +kernel
theorem dL_law_15 : decode cL_law 15 = .ok (.astore_n 2, 1) := by decide +kernel
theorem dL_law_16 : decode cL_law 16 = .ok (.iconst 0, 1) := by decide +kernel
theorem dL_law_17 : decode cL_law 17 = .ok (.istore_n 3, 1) := by decide +kernel
theorem dL_law_18 : decode cL_law 18 = .ok (.iload_n 3, 1) := by decide +kernel
theorem dL_law_19 : decode cL_law 19 = .ok (.aload_n 0, 1) := by decide +kernel
theorem dL_law_20 : decode cL_law 20 = .ok (.arraylength, 1) := by decide +kernel
theorem dL_law_21 : decode cL_law 21 = .ok (.iconst 4, 1) := by decide +kernel
theorem dL_law_22 : decode cL_law 22 = .ok (.isub, 1) := by decide +kernel
theorem dL_law_23 : decode cL_law 23 = .ok (.if_icmp .gt 662, 3) := by decide +kernel
theorem dL_law_26 : decode cL_law 26 = .ok (.aload_n 0, 1) := by decide +kernel
theorem dL_law_27 : decode cL_law 27 = .ok (.iload_n 3, 1) := by decide +kernel
theorem dL_law_28 : decode cL_law 28 = .ok (.iaload, 1) := by decide +kernel
theorem dL_law_29 : decode cL_law 29 = .ok (.bipush 31, 2) := by decide +kernel
theorem dL_law_31 : decode cL_law 31 = .ok (.iand, 1) := by decide +kernel
theorem dL_law_32 : decode cL_law 32 = .ok (.tableswitch 647 0 21 #[104, 127, 140, 153, 166, 199, 232, 255, 278, 311, 334, 357, 380, 413, 446, 469, 528, 541, 584, 597, 610, 633], 104) := by decide +kernel
theorem dL_law_136 : decode cL_law 136 = .ok (.aload_n 1, 1) := by decide +kernel
theorem dL_law_137 : decode cL_law 137 = .ok (.aload_n 0, 1) := by decide +kernel
theorem dL_law_138 : decode cL_law 138 = .ok (.iload_n 3, 1) := by decide +kernel
theorem dL_law_139 : decode cL_law 139 = .ok (.iconst 1, 1) := by decide +kernel
theorem dL_law_140 : decode cL_law 140 = .ok (.iadd, 1) := by decide +kernel
theorem dL_law_141 : decode cL_law 141 = .ok (.iaload, 1) := by decide +kernel
theorem dL_law_142 : decode cL_law 142 = .ok (.invokevirtual 13, 3) := by decide +kernel
theorem dL_law_145 : decode cL_law 145 = .ok (.aload_n 2, 1) := by decide +kernel
theorem dL_law_146 : decode cL_law 146 = .ok (.aload_n 0, 1) := by decide +kernel
theorem dL_law_147 : decode cL_law 147 = .ok (.iload_n 3, 1) := by decide +kernel
theorem dL_law_148 : decode cL_law 148 = .ok (.iconst 1, 1) := by decide +kernel
theorem dL_law_149 : decode cL_law 149 = .ok (.iadd, 1) := by decide +kernel
theorem dL_law_150 : decode cL_law 150 = .ok (.iaload, 1) := by decide +kernel
theorem dL_law_151 : decode cL_law 151 = .ok (.invokevirtual 17, 3) := by decide +kernel
theorem dL_law_154 : decode cL_law 154 = .ok (.if_icmp .eq 525, 3) := by decide +kernel
theorem dL_law_157 : decode cL_law 157 = .ok (.iconst 0, 1) := by decide +kernel
theorem dL_law_158 : decode cL_law 158 = .ok (.ireturn, 1) := by decide +kernel
theorem dL_law_159 : decode cL_law 159 = .ok (.aload_n 1, 1) := by decide +kernel
theorem dL_law_160 : decode cL_law 160 = .ok (.invokevirtual 18, 3) := by decide +kernel
theorem dL_law_163 : decode cL_law 163 = .ok (.aload_n 2, 1) := by decide +kernel
theorem dL_law_164 : decode cL_law 164 = .ok (.invokevirtual 22, 3) := by decide +kernel
theorem dL_law_167 : decode cL_law 167 = .ok (.if_icmp .eq 512, 3) := by decide +kernel
theorem dL_law_170 : decode cL_law 170 = .ok (.iconst 0, 1) := by decide +kernel
theorem dL_law_171 : decode cL_law 171 = .ok (.ireturn, 1) := by decide +kernel
theorem dL_law_172 : decode cL_law 172 = .ok (.aload_n 1, 1) := by decide +kernel
theorem dL_law_173 : decode cL_law 173 = .ok (.invokevirtual 23, 3) := by decide +kernel
theorem dL_law_176 : decode cL_law 176 = .ok (.aload_n 2, 1) := by decide +kernel
theorem dL_law_177 : decode cL_law 177 = .ok (.invokevirtual 26, 3) := by decide +kernel
theorem dL_law_180 : decode cL_law 180 = .ok (.if_icmp .eq 499, 3) := by decide +kernel
theorem dL_law_183 : decode cL_law 183 = .ok (.iconst 0, 1) := by decide +kernel
theorem dL_law_184 : decode cL_law 184 = .ok (.ireturn, 1) := by decide +kernel
theorem dL_law_185 : decode cL_law 185 = .ok (.aload_n 1, 1) := by decide +kernel
theorem dL_law_186 : decode cL_law 186 = .ok (.invokevirtual 27, 3) := by decide +kernel
theorem dL_law_189 : decode cL_law 189 = .ok (.aload_n 2, 1) := by decide +kernel
theorem dL_law_190 : decode cL_law 190 = .ok (.invokevirtual 30, 3) := by decide +kernel
theorem dL_law_193 : decode cL_law 193 = .ok (.if_icmp .eq 486, 3) := by decide +kernel
theorem dL_law_196 : decode cL_law 196 = .ok (.iconst 0, 1) := by decide +kernel
theorem dL_law_197 : decode cL_law 197 = .ok (.ireturn, 1) := by decide +kernel
theorem dL_law_198 : decode cL_law 198 = .ok (.aload_n 1, 1) := by decide +kernel
theorem dL_law_199 : decode cL_law 199 = .ok (.aload_n 0, 1) := by decide +kernel
theorem dL_law_200 : decode cL_law 200 = .ok (.iload_n 3, 1) := by decide +kernel
theorem dL_law_201 : decode cL_law 201 = .ok (.iconst 1, 1) := by decide +kernel
theorem dL_law_202 : decode cL_law 202 = .ok (.iadd, 1) := by decide +kernel
theorem dL_law_203 : decode cL_law 203 = .ok (.iaload, 1) := by decide +kernel
theorem dL_law_204 : decode cL_law 204 = .ok (.aload_n 0, 1) := by decide +kernel
theorem dL_law_205 : decode cL_law 205 = .ok (.iload_n 3, 1) := by decide +kernel
theorem dL_law_206 : decode cL_law 206 = .ok (.iconst 2, 1) := by decide +kernel
theorem dL_law_207 : decode cL_law 207 = .ok (.iadd, 1) := by decide +kernel
theorem dL_law_208 : decode cL_law 208 = .ok (.iaload, 1) := by decide +kernel
theorem dL_law_209 : decode cL_law 209 = .ok (.invokevirtual 31, 3) := by decide +kernel
theorem dL_law_212 : decode cL_law 212 = .ok (.aload_n 2, 1) := by decide +kernel
theorem dL_law_213 : decode cL_law 213 = .ok (.aload_n 0, 1) := by decide +kernel
theorem dL_law_214 : decode cL_law 214 = .ok (.iload_n 3, 1) := by decide +kernel
theorem dL_law_215 : decode cL_law 215 = .ok (.iconst 1, 1) := by decide +kernel
theorem dL_law_216 : decode cL_law 216 = .ok (.iadd, 1) := by decide +kernel
theorem dL_law_217 : decode cL_law 217 = .ok (.iaload, 1) := by decide +kernel
theorem dL_law_218 : decode cL_law 218 = .ok (.aload_n 0, 1) := by decide +kernel
theorem dL_law_219 : decode cL_law 219 = .ok (.iload_n 3, 1) := by decide +kernel
theorem dL_law_220 : decode cL_law 220 = .ok (.iconst 2, 1) := by decide +kernel
theorem dL_law_221 : decode cL_law 221 = .ok (.iadd, 1) := by decide +kernel
theorem dL_law_222 : decode cL_law 222 = .ok (.iaload, 1) := by decide +kernel
theorem dL_law_223 : decode cL_law 223 = .ok (.invokevirtual 35, 3) := by decide +kernel
theorem dL_law_226 : decode cL_law 226 = .ok (.if_icmp .eq 453, 3) := by decide +kernel
theorem dL_law_229 : decode cL_law 229 = .ok (.iconst 0, 1) := by decide +kernel
theorem dL_law_230 : decode cL_law 230 = .ok (.ireturn, 1) := by decide +kernel
theorem dL_law_231 : decode cL_law 231 = .ok (.aload_n 1, 1) := by decide +kernel
theorem dL_law_232 : decode cL_law 232 = .ok (.aload_n 0, 1) := by decide +kernel
theorem dL_law_233 : decode cL_law 233 = .ok (.iload_n 3, 1) := by decide +kernel
theorem dL_law_234 : decode cL_law 234 = .ok (.iconst 1, 1) := by decide +kernel
theorem dL_law_235 : decode cL_law 235 = .ok (.iadd, 1) := by decide +kernel
theorem dL_law_236 : decode cL_law 236 = .ok (.iaload, 1) := by decide +kernel
theorem dL_law_237 : decode cL_law 237 = .ok (.aload_n 0, 1) := by decide +kernel
theorem dL_law_238 : decode cL_law 238 = .ok (.iload_n 3, 1) := by decide +kernel
theorem dL_law_239 : decode cL_law 239 = .ok (.iconst 2, 1) := by decide +kernel
theorem dL_law_240 : decode cL_law 240 = .ok (.iadd, 1) := by decide +kernel
theorem dL_law_241 : decode cL_law 241 = .ok (.iaload, 1) := by decide +kernel
theorem dL_law_242 : decode cL_law 242 = .ok (.invokevirtual 36, 3) := by decide +kernel
theorem dL_law_245 : decode cL_law 245 = .ok (.aload_n 2, 1) := by decide +kernel
theorem dL_law_246 : decode cL_law 246 = .ok (.aload_n 0, 1) := by decide +kernel
theorem dL_law_247 : decode cL_law 247 = .ok (.iload_n 3, 1) := by decide +kernel
theorem dL_law_248 : decode cL_law 248 = .ok (.iconst 1, 1) := by decide +kernel
theorem dL_law_249 : decode cL_law 249 = .ok (.iadd, 1) := by decide +kernel
theorem dL_law_250 : decode cL_law 250 = .ok (.iaload, 1) := by decide +kernel
theorem dL_law_251 : decode cL_law 251 = .ok (.aload_n 0, 1) := by decide +kernel
theorem dL_law_252 : decode cL_law 252 = .ok (.iload_n 3, 1) := by decide +kernel
theorem dL_law_253 : decode cL_law 253 = .ok (.iconst 2, 1) := by decide +kernel
theorem dL_law_254 : decode cL_law 254 = .ok (.iadd, 1) := by decide +kernel
theorem dL_law_255 : decode cL_law 255 = .ok (.iaload, 1) := by decide +kernel
theorem dL_law_256 : decode cL_law 256 = .ok (.invokevirtual 39, 3) := by decide +kernel
theorem dL_law_259 : decode cL_law 259 = .ok (.if_icmp .eq 420, 3) := by decide +kernel
theorem dL_law_262 : decode cL_law 262 = .ok (.iconst 0, 1) := by decide +kernel
theorem dL_law_263 : decode cL_law 263 = .ok (.ireturn, 1) := by decide +kernel
theorem dL_law_264 : decode cL_law 264 = .ok (.aload_n 1, 1) := by decide +kernel
theorem dL_law_265 : decode cL_law 265 = .ok (.aload_n 0, 1) := by decide +kernel
theorem dL_law_266 : decode cL_law 266 = .ok (.iload_n 3, 1) := by decide +kernel
theorem dL_law_267 : decode cL_law 267 = .ok (.iconst 1, 1) := by decide +kernel
theorem dL_law_268 : decode cL_law 268 = .ok (.iadd, 1) := by decide +kernel
theorem dL_law_269 : decode cL_law 269 = .ok (.iaload, 1) := by decide +kernel
theorem dL_law_270 : decode cL_law 270 = .ok (.invokevirtual 40, 3) := by decide +kernel
theorem dL_law_273 : decode cL_law 273 = .ok (.aload_n 2, 1) := by decide +kernel
theorem dL_law_274 : decode cL_law 274 = .ok (.aload_n 0, 1) := by decide +kernel
theorem dL_law_275 : decode cL_law 275 = .ok (.iload_n 3, 1) := by decide +kernel
theorem dL_law_276 : decode cL_law 276 = .ok (.iconst 1, 1) := by decide +kernel
theorem dL_law_277 : decode cL_law 277 = .ok (.iadd, 1) := by decide +kernel
theorem dL_law_278 : decode cL_law 278 = .ok (.iaload, 1) := by decide +kernel
theorem dL_law_279 : decode cL_law 279 = .ok (.invokevirtual 43, 3) := by decide +kernel
theorem dL_law_282 : decode cL_law 282 = .ok (.if_icmp .eq 397, 3) := by decide +kernel
theorem dL_law_285 : decode cL_law 285 = .ok (.iconst 0, 1) := by decide +kernel
theorem dL_law_286 : decode cL_law 286 = .ok (.ireturn, 1) := by decide +kernel
theorem dL_law_287 : decode cL_law 287 = .ok (.aload_n 1, 1) := by decide +kernel
theorem dL_law_288 : decode cL_law 288 = .ok (.aload_n 0, 1) := by decide +kernel
theorem dL_law_289 : decode cL_law 289 = .ok (.iload_n 3, 1) := by decide +kernel
theorem dL_law_290 : decode cL_law 290 = .ok (.iconst 1, 1) := by decide +kernel
theorem dL_law_291 : decode cL_law 291 = .ok (.iadd, 1) := by decide +kernel
theorem dL_law_292 : decode cL_law 292 = .ok (.iaload, 1) := by decide +kernel
theorem dL_law_293 : decode cL_law 293 = .ok (.invokevirtual 44, 3) := by decide +kernel
theorem dL_law_296 : decode cL_law 296 = .ok (.aload_n 2, 1) := by decide +kernel
theorem dL_law_297 : decode cL_law 297 = .ok (.aload_n 0, 1) := by decide +kernel
theorem dL_law_298 : decode cL_law 298 = .ok (.iload_n 3, 1) := by decide +kernel
theorem dL_law_299 : decode cL_law 299 = .ok (.iconst 1, 1) := by decide +kernel
theorem dL_law_300 : decode cL_law 300 = .ok (.iadd, 1) := by decide +kernel
theorem dL_law_301 : decode cL_law 301 = .ok (.iaload, 1) := by decide +kernel
theorem dL_law_302 : decode cL_law 302 = .ok (.invokevirtual 47, 3) := by decide +kernel
theorem dL_law_305 : decode cL_law 305 = .ok (.if_icmp .eq 374, 3) := by decide +kernel
theorem dL_law_308 : decode cL_law 308 = .ok (.iconst 0, 1) := by decide +kernel
theorem dL_law_309 : decode cL_law 309 = .ok (.ireturn, 1) := by decide +kernel
theorem dL_law_310 : decode cL_law 310 = .ok (.aload_n 1, 1) := by decide +kernel
theorem dL_law_311 : decode cL_law 311 = .ok (.aload_n 0, 1) := by decide +kernel
theorem dL_law_312 : decode cL_law 312 = .ok (.iload_n 3, 1) := by decide +kernel
theorem dL_law_313 : decode cL_law 313 = .ok (.iconst 1, 1) := by decide +kernel
theorem dL_law_314 : decode cL_law 314 = .ok (.iadd, 1) := by decide +kernel
theorem dL_law_315 : decode cL_law 315 = .ok (.iaload, 1) := by decide +kernel
theorem dL_law_316 : decode cL_law 316 = .ok (.aload_n 0, 1) := by decide +kernel
theorem dL_law_317 : decode cL_law 317 = .ok (.iload_n 3, 1) := by decide +kernel
theorem dL_law_318 : decode cL_law 318 = .ok (.iconst 2, 1) := by decide +kernel
theorem dL_law_319 : decode cL_law 319 = .ok (.iadd, 1) := by decide +kernel
theorem dL_law_320 : decode cL_law 320 = .ok (.iaload, 1) := by decide +kernel
theorem dL_law_321 : decode cL_law 321 = .ok (.invokevirtual 48, 3) := by decide +kernel
theorem dL_law_324 : decode cL_law 324 = .ok (.aload_n 2, 1) := by decide +kernel
theorem dL_law_325 : decode cL_law 325 = .ok (.aload_n 0, 1) := by decide +kernel
theorem dL_law_326 : decode cL_law 326 = .ok (.iload_n 3, 1) := by decide +kernel
theorem dL_law_327 : decode cL_law 327 = .ok (.iconst 1, 1) := by decide +kernel
theorem dL_law_328 : decode cL_law 328 = .ok (.iadd, 1) := by decide +kernel
theorem dL_law_329 : decode cL_law 329 = .ok (.iaload, 1) := by decide +kernel
theorem dL_law_330 : decode cL_law 330 = .ok (.aload_n 0, 1) := by decide +kernel
theorem dL_law_331 : decode cL_law 331 = .ok (.iload_n 3, 1) := by decide +kernel
theorem dL_law_332 : decode cL_law 332 = .ok (.iconst 2, 1) := by decide +kernel
theorem dL_law_333 : decode cL_law 333 = .ok (.iadd, 1) := by decide +kernel
theorem dL_law_334 : decode cL_law 334 = .ok (.iaload, 1) := by decide +kernel
theorem dL_law_335 : decode cL_law 335 = .ok (.invokevirtual 51, 3) := by decide +kernel
theorem dL_law_338 : decode cL_law 338 = .ok (.if_icmp .eq 341, 3) := by decide +kernel
theorem dL_law_341 : decode cL_law 341 = .ok (.iconst 0, 1) := by decide +kernel
theorem dL_law_342 : decode cL_law 342 = .ok (.ireturn, 1) := by decide +kernel
theorem dL_law_343 : decode cL_law 343 = .ok (.aload_n 1, 1) := by decide +kernel
theorem dL_law_344 : decode cL_law 344 = .ok (.aload_n 0, 1) := by decide +kernel
theorem dL_law_345 : decode cL_law 345 = .ok (.iload_n 3, 1) := by decide +kernel
theorem dL_law_346 : decode cL_law 346 = .ok (.iconst 1, 1) := by decide +kernel
theorem dL_law_347 : decode cL_law 347 = .ok (.iadd, 1) := by decide +kernel
theorem dL_law_348 : decode cL_law 348 = .ok (.iaload, 1) := by decide +kernel
theorem dL_law_349 : decode cL_law 349 = .ok (.invokevirtual 52, 3) := by decide +kernel
theorem dL_law_352 : decode cL_law 352 = .ok (.aload_n 2, 1) := by decide +kernel
theorem dL_law_353 : decode cL_law 353 = .ok (.aload_n 0, 1) := by decide +kernel
theorem dL_law_354 : decode cL_law 354 = .ok (.iload_n 3, 1) := by decide +kernel
theorem dL_law_355 : decode cL_law 355 = .ok (.iconst 1, 1) := by decide +kernel
theorem dL_law_356 : decode cL_law 356 = .ok (.iadd, 1) := by decide +kernel
theorem dL_law_357 : decode cL_law 357 = .ok (.iaload, 1) := by decide +kernel
theorem dL_law_358 : decode cL_law 358 = .ok (.invokevirtual 55, 3) := by decide +kernel
theorem dL_law_361 : decode cL_law 361 = .ok (.if_icmp .eq 318, 3) := by decide +kernel
theorem dL_law_364 : decode cL_law 364 = .ok (.iconst 0, 1) := by decide +kernel
theorem dL_law_365 : decode cL_law 365 = .ok (.ireturn, 1) := by decide +kernel
theorem dL_law_366 : decode cL_law 366 = .ok (.aload_n 1, 1) := by decide +kernel
theorem dL_law_367 : decode cL_law 367 = .ok (.aload_n 0, 1) := by decide +kernel
theorem dL_law_368 : decode cL_law 368 = .ok (.iload_n 3, 1) := by decide +kernel
theorem dL_law_369 : decode cL_law 369 = .ok (.iconst 1, 1) := by decide +kernel
theorem dL_law_370 : decode cL_law 370 = .ok (.iadd, 1) := by decide +kernel
theorem dL_law_371 : decode cL_law 371 = .ok (.iaload, 1) := by decide +kernel
theorem dL_law_372 : decode cL_law 372 = .ok (.invokevirtual 56, 3) := by decide +kernel
theorem dL_law_375 : decode cL_law 375 = .ok (.aload_n 2, 1) := by decide +kernel
theorem dL_law_376 : decode cL_law 376 = .ok (.aload_n 0, 1) := by decide +kernel
theorem dL_law_377 : decode cL_law 377 = .ok (.iload_n 3, 1) := by decide +kernel
theorem dL_law_378 : decode cL_law 378 = .ok (.iconst 1, 1) := by decide +kernel
theorem dL_law_379 : decode cL_law 379 = .ok (.iadd, 1) := by decide +kernel
theorem dL_law_380 : decode cL_law 380 = .ok (.iaload, 1) := by decide +kernel
theorem dL_law_381 : decode cL_law 381 = .ok (.invokevirtual 59, 3) := by decide +kernel
theorem dL_law_384 : decode cL_law 384 = .ok (.if_icmp .eq 295, 3) := by decide +kernel
theorem dL_law_387 : decode cL_law 387 = .ok (.iconst 0, 1) := by decide +kernel
theorem dL_law_388 : decode cL_law 388 = .ok (.ireturn, 1) := by decide +kernel
theorem dL_law_389 : decode cL_law 389 = .ok (.aload_n 1, 1) := by decide +kernel
theorem dL_law_390 : decode cL_law 390 = .ok (.aload_n 0, 1) := by decide +kernel
theorem dL_law_391 : decode cL_law 391 = .ok (.iload_n 3, 1) := by decide +kernel
theorem dL_law_392 : decode cL_law 392 = .ok (.iconst 1, 1) := by decide +kernel
theorem dL_law_393 : decode cL_law 393 = .ok (.iadd, 1) := by decide +kernel
theorem dL_law_394 : decode cL_law 394 = .ok (.iaload, 1) := by decide +kernel
theorem dL_law_395 : decode cL_law 395 = .ok (.invokevirtual 60, 3) := by decide +kernel
theorem dL_law_398 : decode cL_law 398 = .ok (.aload_n 2, 1) := by decide +kernel
theorem dL_law_399 : decode cL_law 399 = .ok (.aload_n 0, 1) := by decide +kernel
theorem dL_law_400 : decode cL_law 400 = .ok (.iload_n 3, 1) := by decide +kernel
theorem dL_law_401 : decode cL_law 401 = .ok (.iconst 1, 1) := by decide +kernel
theorem dL_law_402 : decode cL_law 402 = .ok (.iadd, 1) := by decide +kernel
theorem dL_law_403 : decode cL_law 403 = .ok (.iaload, 1) := by decide +kernel
theorem dL_law_404 : decode cL_law 404 = .ok (.invokevirtual 63, 3) := by decide +kernel
theorem dL_law_407 : decode cL_law 407 = .ok (.if_icmp .eq 272, 3) := by decide +kernel
theorem dL_law_410 : decode cL_law 410 = .ok (.iconst 0, 1) := by decide +kernel
theorem dL_law_411 : decode cL_law 411 = .ok (.ireturn, 1) := by decide +kernel
theorem dL_law_412 : decode cL_law 412 = .ok (.aload_n 1, 1) := by decide +kernel
theorem dL_law_413 : decode cL_law 413 = .ok (.aload_n 0, 1) := by decide +kernel
theorem dL_law_414 : decode cL_law 414 = .ok (.iload_n 3, 1) := by decide +kernel
theorem dL_law_415 : decode cL_law 415 = .ok (.iconst 1, 1) := by decide +kernel
theorem dL_law_416 : decode cL_law 416 = .ok (.iadd, 1) := by decide +kernel
theorem dL_law_417 : decode cL_law 417 = .ok (.iaload, 1) := by decide +kernel
theorem dL_law_418 : decode cL_law 418 = .ok (.aload_n 0, 1) := by decide +kernel
theorem dL_law_419 : decode cL_law 419 = .ok (.iload_n 3, 1) := by decide +kernel
theorem dL_law_420 : decode cL_law 420 = .ok (.iconst 2, 1) := by decide +kernel
theorem dL_law_421 : decode cL_law 421 = .ok (.iadd, 1) := by decide +kernel
theorem dL_law_422 : decode cL_law 422 = .ok (.iaload, 1) := by decide +kernel
theorem dL_law_423 : decode cL_law 423 = .ok (.invokevirtual 64, 3) := by decide +kernel
theorem dL_law_426 : decode cL_law 426 = .ok (.aload_n 2, 1) := by decide +kernel
theorem dL_law_427 : decode cL_law 427 = .ok (.aload_n 0, 1) := by decide +kernel
theorem dL_law_428 : decode cL_law 428 = .ok (.iload_n 3, 1) := by decide +kernel
theorem dL_law_429 : decode cL_law 429 = .ok (.iconst 1, 1) := by decide +kernel
theorem dL_law_430 : decode cL_law 430 = .ok (.iadd, 1) := by decide +kernel
theorem dL_law_431 : decode cL_law 431 = .ok (.iaload, 1) := by decide +kernel
theorem dL_law_432 : decode cL_law 432 = .ok (.aload_n 0, 1) := by decide +kernel
theorem dL_law_433 : decode cL_law 433 = .ok (.iload_n 3, 1) := by decide +kernel
theorem dL_law_434 : decode cL_law 434 = .ok (.iconst 2, 1) := by decide +kernel
theorem dL_law_435 : decode cL_law 435 = .ok (.iadd, 1) := by decide +kernel
theorem dL_law_436 : decode cL_law 436 = .ok (.iaload, 1) := by decide +kernel
theorem dL_law_437 : decode cL_law 437 = .ok (.invokevirtual 67, 3) := by decide +kernel
theorem dL_law_440 : decode cL_law 440 = .ok (.if_icmp .eq 239, 3) := by decide +kernel
theorem dL_law_443 : decode cL_law 443 = .ok (.iconst 0, 1) := by decide +kernel
theorem dL_law_444 : decode cL_law 444 = .ok (.ireturn, 1) := by decide +kernel
theorem dL_law_445 : decode cL_law 445 = .ok (.aload_n 1, 1) := by decide +kernel
theorem dL_law_446 : decode cL_law 446 = .ok (.aload_n 0, 1) := by decide +kernel
theorem dL_law_447 : decode cL_law 447 = .ok (.iload_n 3, 1) := by decide +kernel
theorem dL_law_448 : decode cL_law 448 = .ok (.iconst 1, 1) := by decide +kernel
theorem dL_law_449 : decode cL_law 449 = .ok (.iadd, 1) := by decide +kernel
theorem dL_law_450 : decode cL_law 450 = .ok (.iaload, 1) := by decide +kernel
theorem dL_law_451 : decode cL_law 451 = .ok (.aload_n 0, 1) := by decide +kernel
theorem dL_law_452 : decode cL_law 452 = .ok (.iload_n 3, 1) := by decide +kernel
theorem dL_law_453 : decode cL_law 453 = .ok (.iconst 2, 1) := by decide +kernel
theorem dL_law_454 : decode cL_law 454 = .ok (.iadd, 1) := by decide +kernel
theorem dL_law_455 : decode cL_law 455 = .ok (.iaload, 1) := by decide +kernel
theorem dL_law_456 : decode cL_law 456 = .ok (.invokevirtual 68, 3) := by decide +kernel
theorem dL_law_459 : decode cL_law 459 = .ok (.aload_n 2, 1) := by decide +kernel
theorem dL_law_460 : decode cL_law 460 = .ok (.aload_n 0, 1) := by decide +kernel
theorem dL_law_461 : decode cL_law 461 = .ok (.iload_n 3, 1) := by decide +kernel
theorem dL_law_462 : decode cL_law 462 = .ok (.iconst 1, 1) := by decide +kernel
theorem dL_law_463 : decode cL_law 463 = .ok (.iadd, 1) := by decide +kernel
theorem dL_law_464 : decode cL_law 464 = .ok (.iaload, 1) := by decide +kernel
theorem dL_law_465 : decode cL_law 465 = .ok (.aload_n 0, 1) := by decide +kernel
theorem dL_law_466 : decode cL_law 466 = .ok (.iload_n 3, 1) := by decide +kernel
theorem dL_law_467 : decode cL_law 467 = .ok (.iconst 2, 1) := by decide +kernel
theorem dL_law_468 : decode cL_law 468 = .ok (.iadd, 1) := by decide +kernel
theorem dL_law_469 : decode cL_law 469 = .ok (.iaload, 1) := by decide +kernel
theorem dL_law_470 : decode cL_law 470 = .ok (.invokevirtual 71, 3) := by decide +kernel
theorem dL_law_473 : decode cL_law 473 = .ok (.if_icmp .eq 206, 3) := by decide +kernel
theorem dL_law_476 : decode cL_law 476 = .ok (.iconst 0, 1) := by decide +kernel
theorem dL_law_477 : decode cL_law 477 = .ok (.ireturn, 1) := by decide +kernel
theorem dL_law_478 : decode cL_law 478 = .ok (.aload_n 1, 1) := by decide +kernel
theorem dL_law_479 : decode cL_law 479 = .ok (.aload_n 0, 1) := by decide +kernel
theorem dL_law_480 : decode cL_law 480 = .ok (.iload_n 3, 1) := by decide +kernel
theorem dL_law_481 : decode cL_law 481 = .ok (.iconst 1, 1) := by decide +kernel
theorem dL_law_482 : decode cL_law 482 = .ok (.iadd, 1) := by decide +kernel
theorem dL_law_483 : decode cL_law 483 = .ok (.iaload, 1) := by decide +kernel
theorem dL_law_484 : decode cL_law 484 = .ok (.invokevirtual 72, 3) := by decide +kernel
theorem dL_law_487 : decode cL_law 487 = .ok (.aload_n 2, 1) := by decide +kernel
theorem dL_law_488 : decode cL_law 488 = .ok (.aload_n 0, 1) := by decide +kernel
theorem dL_law_489 : decode cL_law 489 = .ok (.iload_n 3, 1) := by decide +kernel
theorem dL_law_490 : decode cL_law 490 = .ok (.iconst 1, 1) := by decide +kernel
theorem dL_law_491 : decode cL_law 491 = .ok (.iadd, 1) := by decide +kernel
theorem dL_law_492 : decode cL_law 492 = .ok (.iaload, 1) := by decide +kernel
theorem dL_law_493 : decode cL_law 493 = .ok (.invokevirtual 75, 3) := by decide +kernel
theorem dL_law_496 : decode cL_law 496 = .ok (.if_icmp .eq 183, 3) := by decide +kernel
theorem dL_law_499 : decode cL_law 499 = .ok (.iconst 0, 1) := by decide +kernel
theorem dL_law_500 : decode cL_law 500 = .ok (.ireturn, 1) := by decide +kernel
theorem dL_law_501 : decode cL_law 501 = .ok (.aload_n 1, 1) := by decide +kernel
theorem dL_law_502 : decode cL_law 502 = .ok (.aload_n 0, 1) := by decide +kernel
theorem dL_law_503 : decode cL_law 503 = .ok (.iload_n 3, 1) := by decide +kernel
theorem dL_law_504 : decode cL_law 504 = .ok (.iconst 1, 1) := by decide +kernel
theorem dL_law_505 : decode cL_law 505 = .ok (.iadd, 1) := by decide +kernel
theorem dL_law_506 : decode cL_law 506 = .ok (.iaload, 1) := by decide +kernel
theorem dL_law_507 : decode cL_law 507 = .ok (.aload_n 0, 1) := by decide +kernel
theorem dL_law_508 : decode cL_law 508 = .ok (.iload_n 3, 1) := by decide +kernel
theorem dL_law_509 : decode cL_law 509 = .ok (.iconst 2, 1) := by decide +kernel
theorem dL_law_510 : decode cL_law 510 = .ok (.iadd, 1) := by decide +kernel
theorem dL_law_511 : decode cL_law 511 = .ok (.iaload, 1) := by decide +kernel
theorem dL_law_512 : decode cL_law 512 = .ok (.aload_n 0, 1) := by decide +kernel
theorem dL_law_513 : decode cL_law 513 = .ok (.iload_n 3, 1) := by decide +kernel
theorem dL_law_514 : decode cL_law 514 = .ok (.iconst 3, 1) := by decide +kernel
theorem dL_law_515 : decode cL_law 515 = .ok (.iadd, 1) := by decide +kernel
theorem dL_law_516 : decode cL_law 516 = .ok (.iaload, 1) := by decide +kernel
theorem dL_law_517 : decode cL_law 517 = .ok (.ifCond .eq 7, 3) := by decide +kernel
theorem dL_law_520 : decode cL_law 520 = .ok (.iconst 1, 1) := by decide +kernel
theorem dL_law_521 : decode cL_law 521 = .ok (.goto 4, 3) := by decide +kernel
theorem dL_law_524 : decode cL_law 524 = .ok (.iconst 0, 1) := by decide +kernel
theorem dL_law_525 : decode cL_law 525 = .ok (.invokevirtual 76, 3) := by decide +kernel
theorem dL_law_528 : decode cL_law 528 = .ok (.aload_n 2, 1) := by decide +kernel
theorem dL_law_529 : decode cL_law 529 = .ok (.aload_n 0, 1) := by decide +kernel
theorem dL_law_530 : decode cL_law 530 = .ok (.iload_n 3, 1) := by decide +kernel
theorem dL_law_531 : decode cL_law 531 = .ok (.iconst 1, 1) := by decide +kernel
theorem dL_law_532 : decode cL_law 532 = .ok (.iadd, 1) := by decide +kernel
theorem dL_law_533 : decode cL_law 533 = .ok (.iaload, 1) := by decide +kernel
theorem dL_law_534 : decode cL_law 534 = .ok (.aload_n 0, 1) := by decide +kernel
theorem dL_law_535 : decode cL_law 535 = .ok (.iload_n 3, 1) := by decide +kernel
theorem dL_law_536 : decode cL_law 536 = .ok (.iconst 2, 1) := by decide +kernel
theorem dL_law_537 : decode cL_law 537 = .ok (.iadd, 1) := by decide +kernel
theorem dL_law_538 : decode cL_law 538 = .ok (.iaload, 1) := by decide +kernel
theorem dL_law_539 : decode cL_law 539 = .ok (.aload_n 0, 1) := by decide +kernel
theorem dL_law_540 : decode cL_law 540 = .ok (.iload_n 3, 1) := by decide +kernel
theorem dL_law_541 : decode cL_law 541 = .ok (.iconst 3, 1) := by decide +kernel
theorem dL_law_542 : decode cL_law 542 = .ok (.iadd, 1) := by decide +kernel
theorem dL_law_543 : decode cL_law 543 = .ok (.iaload, 1) := by decide +kernel
theorem dL_law_544 : decode cL_law 544 = .ok (.ifCond .eq 7, 3) := by decide +kernel
theorem dL_law_547 : decode cL_law 547 = .ok (.iconst 1, 1) := by decide +kernel
theorem dL_law_548 : decode cL_law 548 = .ok (.goto 4, 3) := by decide +kernel
theorem dL_law_551 : decode cL_law 551 = .ok (.iconst 0, 1) := by decide +kernel
theorem dL_law_552 : decode cL_law 552 = .ok (.invokevirtual 80, 3) := by decide +kernel
theorem dL_law_555 : decode cL_law 555 = .ok (.if_icmp .eq 124, 3) := by decide +kernel
theorem dL_law_558 : decode cL_law 558 = .ok (.iconst 0, 1) := by decide +kernel
theorem dL_law_559 : decode cL_law 559 = .ok (.ireturn, 1) := by decide +kernel
theorem dL_law_560 : decode cL_law 560 = .ok (.aload_n 1, 1) := by decide +kernel
theorem dL_law_561 : decode cL_law 561 = .ok (.invokevirtual 81, 3) := by decide +kernel
theorem dL_law_564 : decode cL_law 564 = .ok (.aload_n 2, 1) := by decide +kernel
theorem dL_law_565 : decode cL_law 565 = .ok (.invokevirtual 84, 3) := by decide +kernel
theorem dL_law_568 : decode cL_law 568 = .ok (.if_icmp .eq 111, 3) := by decide +kernel
theorem dL_law_571 : decode cL_law 571 = .ok (.iconst 0, 1) := by decide +kernel
theorem dL_law_572 : decode cL_law 572 = .ok (.ireturn, 1) := by decide +kernel
theorem dL_law_573 : decode cL_law 573 = .ok (.aload_n 1, 1) := by decide +kernel
theorem dL_law_574 : decode cL_law 574 = .ok (.aload_n 0, 1) := by decide +kernel
theorem dL_law_575 : decode cL_law 575 = .ok (.iload_n 3, 1) := by decide +kernel
theorem dL_law_576 : decode cL_law 576 = .ok (.iconst 1, 1) := by decide +kernel
theorem dL_law_577 : decode cL_law 577 = .ok (.iadd, 1) := by decide +kernel
theorem dL_law_578 : decode cL_law 578 = .ok (.iaload, 1) := by decide +kernel
theorem dL_law_579 : decode cL_law 579 = .ok (.aload_n 0, 1) := by decide +kernel
theorem dL_law_580 : decode cL_law 580 = .ok (.iload_n 3, 1) := by decide +kernel
theorem dL_law_581 : decode cL_law 581 = .ok (.iconst 2, 1) := by decide +kernel
theorem dL_law_582 : decode cL_law 582 = .ok (.iadd, 1) := by decide +kernel
theorem dL_law_583 : decode cL_law 583 = .ok (.iaload, 1) := by decide +kernel
theorem dL_law_584 : decode cL_law 584 = .ok (.aload_n 0, 1) := by decide +kernel
theorem dL_law_585 : decode cL_law 585 = .ok (.iload_n 3, 1) := by decide +kernel
theorem dL_law_586 : decode cL_law 586 = .ok (.iconst 3, 1) := by decide +kernel
theorem dL_law_587 : decode cL_law 587 = .ok (.iadd, 1) := by decide +kernel
theorem dL_law_588 : decode cL_law 588 = .ok (.iaload, 1) := by decide +kernel
theorem dL_law_589 : decode cL_law 589 = .ok (.invokevirtual 85, 3) := by decide +kernel
theorem dL_law_592 : decode cL_law 592 = .ok (.aload_n 2, 1) := by decide +kernel
theorem dL_law_593 : decode cL_law 593 = .ok (.aload_n 0, 1) := by decide +kernel
theorem dL_law_594 : decode cL_law 594 = .ok (.iload_n 3, 1) := by decide +kernel
theorem dL_law_595 : decode cL_law 595 = .ok (.iconst 1, 1) := by decide +kernel
theorem dL_law_596 : decode cL_law 596 = .ok (.iadd, 1) := by decide +kernel
theorem dL_law_597 : decode cL_law 597 = .ok (.iaload, 1) := by decide +kernel
theorem dL_law_598 : decode cL_law 598 = .ok (.aload_n 0, 1) := by decide +kernel
theorem dL_law_599 : decode cL_law 599 = .ok (.iload_n 3, 1) := by decide +kernel
theorem dL_law_600 : decode cL_law 600 = .ok (.iconst 2, 1) := by decide +kernel
theorem dL_law_601 : decode cL_law 601 = .ok (.iadd, 1) := by decide +kernel
theorem dL_law_602 : decode cL_law 602 = .ok (.iaload, 1) := by decide +kernel
theorem dL_law_603 : decode cL_law 603 = .ok (.aload_n 0, 1) := by decide +kernel
theorem dL_law_604 : decode cL_law 604 = .ok (.iload_n 3, 1) := by decide +kernel
theorem dL_law_605 : decode cL_law 605 = .ok (.iconst 3, 1) := by decide +kernel
theorem dL_law_606 : decode cL_law 606 = .ok (.iadd, 1) := by decide +kernel
theorem dL_law_607 : decode cL_law 607 = .ok (.iaload, 1) := by decide +kernel
theorem dL_law_608 : decode cL_law 608 = .ok (.invokevirtual 89, 3) := by decide +kernel
theorem dL_law_611 : decode cL_law 611 = .ok (.if_icmp .eq 68, 3) := by decide +kernel
theorem dL_law_614 : decode cL_law 614 = .ok (.iconst 0, 1) := by decide +kernel
theorem dL_law_615 : decode cL_law 615 = .ok (.ireturn, 1) := by decide +kernel
theorem dL_law_616 : decode cL_law 616 = .ok (.aload_n 1, 1) := by decide +kernel
theorem dL_law_617 : decode cL_law 617 = .ok (.invokevirtual 90, 3) := by decide +kernel
theorem dL_law_620 : decode cL_law 620 = .ok (.aload_n 2, 1) := by decide +kernel
theorem dL_law_621 : decode cL_law 621 = .ok (.invokevirtual 93, 3) := by decide +kernel
theorem dL_law_624 : decode cL_law 624 = .ok (.if_icmp .eq 55, 3) := by decide +kernel
theorem dL_law_627 : decode cL_law 627 = .ok (.iconst 0, 1) := by decide +kernel
theorem dL_law_628 : decode cL_law 628 = .ok (.ireturn, 1) := by decide +kernel
theorem dL_law_629 : decode cL_law 629 = .ok (.aload_n 1, 1) := by decide +kernel
theorem dL_law_630 : decode cL_law 630 = .ok (.invokevirtual 94, 3) := by decide +kernel
theorem dL_law_633 : decode cL_law 633 = .ok (.aload_n 2, 1) := by decide +kernel
theorem dL_law_634 : decode cL_law 634 = .ok (.invokevirtual 97, 3) := by decide +kernel
theorem dL_law_637 : decode cL_law 637 = .ok (.if_icmp .eq 42, 3) := by decide +kernel
theorem dL_law_640 : decode cL_law 640 = .ok (.iconst 0, 1) := by decide +kernel
theorem dL_law_641 : decode cL_law 641 = .ok (.ireturn, 1) := by decide +kernel
theorem dL_law_642 : decode cL_law 642 = .ok (.aload_n 1, 1) := by decide +kernel
theorem dL_law_643 : decode cL_law 643 = .ok (.aload_n 0, 1) := by decide +kernel
theorem dL_law_644 : decode cL_law 644 = .ok (.iload_n 3, 1) := by decide +kernel
theorem dL_law_645 : decode cL_law 645 = .ok (.iconst 1, 1) := by decide +kernel
theorem dL_law_646 : decode cL_law 646 = .ok (.iadd, 1) := by decide +kernel
theorem dL_law_647 : decode cL_law 647 = .ok (.iaload, 1) := by decide +kernel
theorem dL_law_648 : decode cL_law 648 = .ok (.invokevirtual 98, 3) := by decide +kernel
theorem dL_law_651 : decode cL_law 651 = .ok (.aload_n 2, 1) := by decide +kernel
theorem dL_law_652 : decode cL_law 652 = .ok (.aload_n 0, 1) := by decide +kernel
theorem dL_law_653 : decode cL_law 653 = .ok (.iload_n 3, 1) := by decide +kernel
theorem dL_law_654 : decode cL_law 654 = .ok (.iconst 1, 1) := by decide +kernel
theorem dL_law_655 : decode cL_law 655 = .ok (.iadd, 1) := by decide +kernel
theorem dL_law_656 : decode cL_law 656 = .ok (.iaload, 1) := by decide +kernel
theorem dL_law_657 : decode cL_law 657 = .ok (.invokevirtual 101, 3) := by decide +kernel
theorem dL_law_660 : decode cL_law 660 = .ok (.if_icmp .eq 19, 3) := by decide +kernel
theorem dL_law_663 : decode cL_law 663 = .ok (.iconst 0, 1) := by decide +kernel
theorem dL_law_664 : decode cL_law 664 = .ok (.ireturn, 1) := by decide +kernel
theorem dL_law_665 : decode cL_law 665 = .ok (.aload_n 1, 1) := by decide +kernel
theorem dL_law_666 : decode cL_law 666 = .ok (.invokevirtual 102, 3) := by decide +kernel
theorem dL_law_669 : decode cL_law 669 = .ok (.aload_n 2, 1) := by decide +kernel
theorem dL_law_670 : decode cL_law 670 = .ok (.invokevirtual 106, 3) := by decide +kernel
theorem dL_law_673 : decode cL_law 673 = .ok (.lcmp, 1) := by decide +kernel
theorem dL_law_674 : decode cL_law 674 = .ok (.ifCond .eq 5, 3) := by decide +kernel
theorem dL_law_677 : decode cL_law 677 = .ok (.iconst 0, 1) := by decide +kernel
theorem dL_law_678 : decode cL_law 678 = .ok (.ireturn, 1) := by decide +kernel
theorem dL_law_679 : decode cL_law 679 = .ok (.iinc 3 4, 3) := by decide +kernel
theorem dL_law_682 : decode cL_law 682 = .ok (.goto (-664), 3) := by decide +kernel
theorem dL_law_685 : decode cL_law 685 = .ok (.iconst 1, 1) := by decide +kernel
theorem dL_law_686 : decode cL_law 686 = .ok (.ireturn, 1) := by decide +kernel
