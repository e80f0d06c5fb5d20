theorem dX4_tryIt_4 : decode cX4_tryIt 4 = .ok (.iload_n 1, 1) := by decide +kernel
theorem dX4_tryIt_5 : decode cX4_tryIt 5 = .ok (.invokevirtual 92, 3) := by decide +kernel
theorem dX4_tryIt_8 : decode cX4_tryIt 8 = .ok (.ifCond .ne 6, 3) := by decide +kernel
theorem dX4_tryIt_11 : decode cX4_tryIt 11 = .ok (.bipush (-101), 2) := by decide +kernel
theorem dX4_tryIt_13 : decode cX4_tryIt 13 = .ok (.ireturn, 1) := by decide +kernel
theorem dX4_tryIt_14 : decode cX4_tryIt 14 = .ok (.iload_n 2, 1) := by decide +kernel
theorem dX4_tryIt_15 : decode cX4_tryIt 15 = .ok (.ifCond .lt 8, 3) := by decide +kernel
theorem dX4_tryIt_18 : decode cX4_tryIt 18 = .ok (.iload_n 2, 1) := by decide +kernel
theorem dX4_tryIt_19 : decode cX4_tryIt 19 = .ok (.iconst 5, 1) := by decide +kernel
theorem dX4_tryIt_20 : decode cX4_tryIt 20 = .ok (.if_icmp .lt 6, 3) := by decide +kernel
theorem dX4_tryIt_23 : decode cX4_tryIt 23 = .ok (.bipush (-102), 2) := by decide +kernel
theorem dX4_tryIt_25 : decode cX4_tryIt 25 = .ok (.ireturn, 1) := by decide +kernel
theorem dX4_tryIt_26 : decode cX4_tryIt 26 = .ok (.aload_n 0, 1) := by decide +kernel
theorem dX4_tryIt_27 : decode cX4_tryIt 27 = .ok (.getfield 35, 3) := by decide +kernel
theorem dX4_tryIt_30 : decode cX4_tryIt 30 = .ok (.getfield 90, 3) := by decide +kernel
theorem dX4_tryIt_33 : decode cX4_tryIt 33 = .ok (.bipush 8, 2) := by decide +kernel
theorem dX4_tryIt_35 : decode cX4_tryIt 35 = .ok (.if_icmp .lt 6, 3) := by decide +kernel
theorem dX4_tryIt_38 : decode cX4_tryIt 38 = .ok (.bipush (-104), 2) := by decide +kernel
theorem dX4_tryIt_40 : decode cX4_tryIt 40 = .ok (.ireturn, 1) := by decide +kernel
theorem dX4_tryIt_41 : decode cX4_tryIt 41 = .ok (.aload_n 0, 1) := by decide +kernel
theorem dX4_tryIt_42 : decode cX4_tryIt 42 = .ok (.getfield 35, 3) := by decide +kernel
theorem dX4_tryIt_45 : decode cX4_tryIt 45 = .ok (.iload_n 1, 1) := by decide +kernel
theorem dX4_tryIt_46 : decode cX4_tryIt 46 = .ok (.iload_n 2, 1) := by decide +kernel
theorem dX4_tryIt_47 : decode cX4_tryIt 47 = .ok (.iload_n 3, 1) := by decide +kernel
theorem dX4_tryIt_48 : decode cX4_tryIt 48 = .ok (.invokevirtual 173, 3) := by decide +kernel
theorem dX4_tryIt_51 : decode cX4_tryIt 51 = .ok (.aload_n 0, 1) := by decide +kernel
theorem dX4_tryIt_52 : decode cX4_tryIt 52 = .ok (.getfield 35, 3) := by decide +kernel
theorem dX4_tryIt_55 : decode cX4_tryIt 55 = .ok (.getfield 90, 3) := by decide +kernel
theorem dX4_tryIt_58 : decode cX4_tryIt 58 = .ok (.ireturn, 1) := by decide +kernel
theorem dX4_forget_0 : decode cX4_forget 0 = .ok (.aload_n 0, 1) := by decide +kernel
theorem dX4_forget_1 : decode cX4_forget 1 = .ok (.getfield 35, 3) := by decide +kernel
theorem dX4_forget_4 : decode cX4_forget 4 = .ok (.getfield 90, 3) := by decide +kernel
theorem dX4_forget_7 : decode cX4_forget 7 = .ok (.istore_n 1, 1) := by decide +kernel
theorem dX4_forget_8 : decode cX4_forget 8 = .ok (.aload_n 0, 1) := by decide +kernel
theorem dX4_forget_9 : decode cX4_forget 9 = .ok (.getfield 35, 3) := by decide +kernel
theorem dX4_forget_12 : decode cX4_forget 12 = .ok (.iconst 0, 1) := by decide +kernel
theorem dX4_forget_13 : decode cX4_forget 13 = .ok (.putfield 90, 3) := by decide +kernel
theorem dX4_forget_16 : decode cX4_forget 16 = .ok (.iload_n 1, 1) := by decide +kernel
theorem dX4_forget_17 : decode cX4_forget 17 = .ok (.ireturn, 1) := by decide +kernel
theorem dX4_meets_0 : decode cX4_meets 0 = .ok (.iload_n 1, 1) := by decide +kernel
theorem dX4_meets_1 : decode cX4_meets 1 = .ok (.iconst 1, 1) := by decide +kernel
theorem dX4_meets_2 : decode cX4_meets 2 = .ok (.if_icmp .lt 22, 3) := by decide +kernel
theorem dX4_meets_5 : decode cX4_meets 5 = .ok (.iload_n 1, 1) := by decide +kernel
theorem dX4_meets_6 : decode cX4_meets 6 = .ok (.bipush 60, 2) := by decide +kernel
theorem dX4_meets_8 : decode cX4_meets 8 = .ok (.if_icmp .gt 16, 3) := by decide +kernel
theorem dX4_meets_11 : decode cX4_meets 11 = .ok (.iload_n 2, 1) := by decide +kernel
theorem dX4_meets_12 : decode cX4_meets 12 = .ok (.ifCond .lt 12, 3) := by decide +kernel
theorem dX4_meets_15 : decode cX4_meets 15 = .ok (.iload_n 3, 1) := by decide +kernel
theorem dX4_meets_16 : decode cX4_meets 16 = .ok (.ifCond .lt 8, 3) := by decide +kernel
theorem dX4_meets_19 : decode cX4_meets 19 = .ok (.iload_n 3, 1) := by decide +kernel
theorem dX4_meets_20 : decode cX4_meets 20 = .ok (.iconst 2, 1) := by decide +kernel
theorem dX4_meets_21 : decode cX4_meets 21 = .ok (.if_icmp .le 6, 3) := by decide +kernel
theorem dX4_meets_24 : decode cX4_meets 24 = .ok (.bipush (-102), 2) := by decide +kernel
theorem dX4_meets_26 : decode cX4_meets 26 = .ok (.ireturn, 1) := by decide +kernel
theorem dX4_meets_27 : decode cX4_meets 27 = .ok (.aload_n 0, 1) := by decide +kernel
theorem dX4_meets_28 : decode cX4_meets 28 = .ok (.invokevirtual 141, 3) := by decide +kernel
theorem dX4_meets_31 : decode cX4_meets 31 = .ok (.ifCond .eq 6, 3) := by decide +kernel
theorem dX4_meets_34 : decode cX4_meets 34 = .ok (.bipush (-103), 2) := by decide +kernel
theorem dX4_meets_36 : decode cX4_meets 36 = .ok (.ireturn, 1) := by decide +kernel
theorem dX4_meets_37 : decode cX4_meets 37 = .ok (.iconst 0, 1) := by decide +kernel
theorem dX4_meets_38 : decode cX4_meets 38 = .ok (.istore 4, 2) := by decide +kernel
theorem dX4_meets_40 : decode cX4_meets 40 = .ok (.sipush 20000, 3) := by decide +kernel
theorem dX4_meets_43 : decode cX4_meets 43 = .ok (.istore 5, 2) := by decide +kernel
theorem dX4_meets_45 : decode cX4_meets 45 = .ok (.iload_n 2, 1) := by decide +kernel
theorem dX4_meets_46 : decode cX4_meets 46 = .ok (.istore 6, 2) := by decide +kernel
theorem dX4_meets_48 : decode cX4_meets 48 = .ok (.iconst 0, 1) := by decide +kernel
theorem dX4_meets_49 : decode cX4_meets 49 = .ok (.istore 7, 2) := by decide +kernel
theorem dX4_meets_51 : decode cX4_meets 51 = .ok (.iload 7, 2) := by decide +kernel
theorem dX4_meets_53 : decode cX4_meets 53 = .ok (.iload_n 1, 1) := by decide +kernel
theorem dX4_meets_54 : decode cX4_meets 54 = .ok (.if_icmp .ge 95, 3) := by decide +kernel
theorem dX4_meets_57 : decode cX4_meets 57 = .ok (.iconst 0, 1) := by decide +kernel
theorem dX4_meets_58 : decode cX4_meets 58 = .ok (.istore 8, 2) := by decide +kernel
theorem dX4_meets_60 : decode cX4_meets 60 = .ok (.iconst 0, 1) := by decide +kernel
theorem dX4_meets_61 : decode cX4_meets 61 = .ok (.istore 9, 2) := by decide +kernel
theorem dX4_meets_63 : decode cX4_meets 63 = .ok (.iload 9, 2) := by decide +kernel
theorem dX4_meets_65 : decode cX4_meets 65 = .ok (.aload_n 0, 1) := by decide +kernel
theorem dX4_meets_66 : decode cX4_meets 66 = .ok (.getfield 28, 3) := by decide +kernel
theorem dX4_meets_69 : decode cX4_meets 69 = .ok (.getfield 87, 3) := by decide +kernel
theorem dX4_meets_72 : decode cX4_meets 72 = .ok (.if_icmp .ge 42, 3) := by decide +kernel
theorem dX4_meets_75 : decode cX4_meets 75 = .ok (.iload 6, 2) := by decide +kernel
theorem dX4_meets_77 : decode cX4_meets 77 = .ok (.invokestatic 176, 3) := by decide +kernel
theorem dX4_meets_80 : decode cX4_meets 80 = .ok (.istore 6, 2) := by decide +kernel
theorem dX4_meets_82 : decode cX4_meets 82 = .ok (.iload 6, 2) := by decide +kernel
theorem dX4_meets_84 : decode cX4_meets 84 = .ok (.invokestatic 179, 3) := by decide +kernel
theorem dX4_meets_87 : decode cX4_meets 87 = .ok (.aload_n 0, 1) := by decide +kernel
theorem dX4_meets_88 : decode cX4_meets 88 = .ok (.getfield 28, 3) := by decide +kernel
theorem dX4_meets_91 : decode cX4_meets 91 = .ok (.iload 9, 2) := by decide +kernel
theorem dX4_meets_93 : decode cX4_meets 93 = .ok (.invokevirtual 112, 3) := by decide +kernel
theorem dX4_meets_96 : decode cX4_meets 96 = .ok (.if_icmp .lt 12, 3) := by decide +kernel
theorem dX4_meets_99 : decode cX4_meets 99 = .ok (.iload 8, 2) := by decide +kernel
theorem dX4_meets_101 : decode cX4_meets 101 = .ok (.iconst 1, 1) := by decide +kernel
theorem dX4_meets_102 : decode cX4_meets 102 = .ok (.iload 9, 2) := by decide +kernel
theorem dX4_meets_104 : decode cX4_meets 104 = .ok (.ishl, 1) := by decide +kernel
theorem dX4_meets_105 : decode cX4_meets 105 = .ok (.ior, 1) := by decide +kernel
theorem dX4_meets_106 : decode cX4_meets 106 = .ok (.istore 8, 2) := by decide +kernel
theorem dX4_meets_108 : decode cX4_meets 108 = .ok (.iinc 9 1, 3) := by decide +kernel
theorem dX4_meets_111 : decode cX4_meets 111 = .ok (.goto (-48), 3) := by decide +kernel
theorem dX4_meets_114 : decode cX4_meets 114 = .ok (.iload 4, 2) := by decide +kernel
theorem dX4_meets_116 : decode cX4_meets 116 = .ok (.iload 8, 2) := by decide +kernel
theorem dX4_meets_118 : decode cX4_meets 118 = .ok (.ifCond .ne 7, 3) := by decide +kernel
theorem dX4_meets_121 : decode cX4_meets 121 = .ok (.iconst 1, 1) := by decide +kernel
theorem dX4_meets_122 : decode cX4_meets 122 = .ok (.goto 4, 3) := by decide +kernel
theorem dX4_meets_125 : decode cX4_meets 125 = .ok (.iconst 0, 1) := by decide +kernel
theorem dX4_meets_126 : decode cX4_meets 126 = .ok (.iadd, 1) := by decide +kernel
theorem dX4_meets_127 : decode cX4_meets 127 = .ok (.istore 4, 2) := by decide +kernel
theorem dX4_meets_129 : decode cX4_meets 129 = .ok (.iload 5, 2) := by decide +kernel
theorem dX4_meets_131 : decode cX4_meets 131 = .ok (.aload_n 0, 1) := by decide +kernel
theorem dX4_meets_132 : decode cX4_meets 132 = .ok (.getfield 28, 3) := by decide +kernel
theorem dX4_meets_135 : decode cX4_meets 135 = .ok (.iload 8, 2) := by decide +kernel
theorem dX4_meets_137 : decode cX4_meets 137 = .ok (.invokevirtual 144, 3) := by decide +kernel
theorem dX4_meets_140 : decode cX4_meets 140 = .ok (.iadd, 1) := by decide +kernel
theorem dX4_meets_141 : decode cX4_meets 141 = .ok (.istore 5, 2) := by decide +kernel
theorem dX4_meets_143 : decode cX4_meets 143 = .ok (.iinc 7 1, 3) := by decide +kernel
theorem dX4_meets_146 : decode cX4_meets 146 = .ok (.goto (-95), 3) := by decide +kernel
theorem dX4_meets_149 : decode cX4_meets 149 = .ok (.iload_n 3, 1) := by decide +kernel
theorem dX4_meets_150 : decode cX4_meets 150 = .ok (.ifCond .ne 6, 3) := by decide +kernel
theorem dX4_meets_153 : decode cX4_meets 153 = .ok (.iload 4, 2) := by decide +kernel
theorem dX4_meets_155 : decode cX4_meets 155 = .ok (.ireturn, 1) := by decide +kernel
theorem dX4_meets_156 : decode cX4_meets 156 = .ok (.iload_n 3, 1) := by decide +kernel
theorem dX4_meets_157 : decode cX4_meets 157 = .ok (.iconst 1, 1) := by decide +kernel
theorem dX4_meets_158 : decode cX4_meets 158 = .ok (.if_icmp .ne 8, 3) := by decide +kernel
theorem dX4_meets_161 : decode cX4_meets 161 = .ok (.iload 5, 2) := by decide +kernel
theorem dX4_meets_163 : decode cX4_meets 163 = .ok (.goto 5, 3) := by decide +kernel
theorem dX4_meets_166 : decode cX4_meets 166 = .ok (.iload 6, 2) := by decide +kernel
theorem dX4_meets_168 : decode cX4_meets 168 = .ok (.ireturn, 1) := by decide +kernel
theorem dX4_image_0 : decode cX4_image 0 = .ok (.aload_n 0, 1) := by decide +kernel
theorem dX4_image_1 : decode cX4_image 1 = .ok (.invokevirtual 141, 3) := by decide +kernel
theorem dX4_image_4 : decode cX4_image 4 = .ok (.ifCond .eq 6, 3) := by decide +kernel
theorem dX4_image_7 : decode cX4_image 7 = .ok (.bipush (-103), 2) := by decide +kernel
theorem dX4_image_9 : decode cX4_image 9 = .ok (.ireturn, 1) := by decide +kernel
theorem dX4_image_10 : decode cX4_image 10 = .ok (.aload_n 0, 1) := by decide +kernel
theorem dX4_image_11 : decode cX4_image 11 = .ok (.getfield 47, 3) := by decide +kernel
theorem dX4_image_14 : decode cX4_image 14 = .ok (.aload_n 0, 1) := by decide +kernel
theorem dX4_image_15 : decode cX4_image 15 = .ok (.getfield 28, 3) := by decide +kernel
theorem dX4_image_18 : decode cX4_image 18 = .ok (.invokevirtual 169, 3) := by decide +kernel
theorem dX4_image_21 : decode cX4_image 21 = .ok (.aload_n 0, 1) := by decide +kernel
theorem dX4_image_22 : decode cX4_image 22 = .ok (.getfield 50, 3) := by decide +kernel
theorem dX4_image_25 : decode cX4_image 25 = .ok (.aload_n 0, 1) := by decide +kernel
theorem dX4_image_26 : decode cX4_image 26 = .ok (.getfield 35, 3) := by decide +kernel
theorem dX4_image_29 : decode cX4_image 29 = .ok (.invokevirtual 182, 3) := by decide +kernel
theorem dX4_image_32 : decode cX4_image 32 = .ok (.aload_n 0, 1) := by decide +kernel
theorem dX4_image_33 : decode cX4_image 33 = .ok (.aload_n 0, 1) := by decide +kernel
theorem dX4_image_34 : decode cX4_image 34 = .ok (.getfield 39, 3) := by decide +kernel
theorem dX4_image_37 : decode cX4_image 37 = .ok (.putfield 53, 3) := by decide +kernel
theorem dX4_image_40 : decode cX4_image 40 = .ok (.aload_n 0, 1) := by decide +kernel
theorem dX4_image_41 : decode cX4_image 41 = .ok (.iconst 1, 1) := by decide +kernel
theorem dX4_image_42 : decode cX4_image 42 = .ok (.putfield 43, 3) := by decide +kernel
theorem dX4_image_45 : decode cX4_image 45 = .ok (.aload_n 0, 1) := by decide +kernel
theorem dX4_image_46 : decode cX4_image 46 = .ok (.getfield 39, 3) := by decide +kernel
theorem dX4_image_49 : decode cX4_image 49 = .ok (.ireturn, 1) := by decide +kernel
theorem dX4_restore_0 : decode cX4_restore 0 = .ok (.aload_n 0, 1) := by decide +kernel
theorem dX4_restore_1 : decode cX4_restore 1 = .ok (.getfield 43, 3) := by decide +kernel
theorem dX4_restore_4 : decode cX4_restore 4 = .ok (.ifCond .ne 6, 3) := by decide +kernel
theorem dX4_restore_7 : decode cX4_restore 7 = .ok (.bipush (-103), 2) := by decide +kernel
theorem dX4_restore_9 : decode cX4_restore 9 = .ok (.ireturn, 1) := by decide +kernel
theorem dX4_restore_10 : decode cX4_restore 10 = .ok (.aload_n 0, 1) := by decide +kernel
theorem dX4_restore_11 : decode cX4_restore 11 = .ok (.getfield 28, 3) := by decide +kernel
theorem dX4_restore_14 : decode cX4_restore 14 = .ok (.aload_n 0, 1) := by decide +kernel
theorem dX4_restore_15 : decode cX4_restore 15 = .ok (.getfield 47, 3) := by decide +kernel
theorem dX4_restore_18 : decode cX4_restore 18 = .ok (.invokevirtual 169, 3) := by decide +kernel
theorem dX4_restore_21 : decode cX4_restore 21 = .ok (.aload_n 0, 1) := by decide +kernel
theorem dX4_restore_22 : decode cX4_restore 22 = .ok (.getfield 35, 3) := by decide +kernel
theorem dX4_restore_25 : decode cX4_restore 25 = .ok (.aload_n 0, 1) := by decide +kernel
theorem dX4_restore_26 : decode cX4_restore 26 = .ok (.getfield 50, 3) := by decide +kernel
theorem dX4_restore_29 : decode cX4_restore 29 = .ok (.invokevirtual 182, 3) := by decide +kernel
theorem dX4_restore_32 : decode cX4_restore 32 = .ok (.aload_n 0, 1) := by decide +kernel
theorem dX4_restore_33 : decode cX4_restore 33 = .ok (.aload_n 0, 1) := by decide +kernel
theorem dX4_restore_34 : decode cX4_restore 34 = .ok (.getfield 53, 3) := by decide +kernel
theorem dX4_restore_37 : decode cX4_restore 37 = .ok (.putfield 39, 3) := by decide +kernel
theorem dX4_restore_40 : decode cX4_restore 40 = .ok (.aload_n 0, 1) := by decide +kernel
theorem dX4_restore_41 : decode cX4_restore 41 = .ok (.getfield 39, 3) := by decide +kernel
theorem dX4_restore_44 : decode cX4_restore 44 = .ok (.ireturn, 1) := by decide +kernel
theorem dX4_count_0 : decode cX4_count 0 = .ok (.iload_n 1, 1) := by decide +kernel
theorem dX4_count_1 : decode cX4_count 1 = .ok (.tableswitch 128 0 9 #[55, 63, 71, 80, 89, 97, 102, 110, 118, 123], 55) := by decide +kernel
theorem dX4_count_56 : decode cX4_count 56 = .ok (.aload_n 0, 1) := by decide +kernel
theorem dX4_count_57 : decode cX4_count 57 = .ok (.getfield 19, 3) := by decide +kernel
theorem dX4_count_60 : decode cX4_count 60 = .ok (.getfield 91, 3) := by decide +kernel
theorem dX4_count_63 : decode cX4_count 63 = .ok (.ireturn, 1) := by decide +kernel
theorem dX4_count_64 : decode cX4_count 64 = .ok (.aload_n 0, 1) := by decide +kernel
theorem dX4_count_65 : decode cX4_count 65 = .ok (.getfield 28, 3) := by decide +kernel
theorem dX4_count_68 : decode cX4_count 68 = .ok (.getfield 87, 3) := by decide +kernel
theorem dX4_count_71 : decode cX4_count 71 = .ok (.ireturn, 1) := by decide +kernel
theorem dX4_count_72 : decode cX4_count 72 = .ok (.aload_n 0, 1) := by decide +kernel
theorem dX4_count_73 : decode cX4_count 73 = .ok (.getfield 28, 3) := by decide +kernel
theorem dX4_count_76 : decode cX4_count 76 = .ok (.iconst 1, 1) := by decide +kernel
theorem dX4_count_77 : decode cX4_count 77 = .ok (.invokevirtual 185, 3) := by decide +kernel
theorem dX4_count_80 : decode cX4_count 80 = .ok (.ireturn, 1) := by decide +kernel
theorem dX4_count_81 : decode cX4_count 81 = .ok (.aload_n 0, 1) := by decide +kernel
theorem dX4_count_82 : decode cX4_count 82 = .ok (.getfield 28, 3) := by decide +kernel
theorem dX4_count_85 : decode cX4_count 85 = .ok (.iconst 2, 1) := by decide +kernel
theorem dX4_count_86 : decode cX4_count 86 = .ok (.invokevirtual 185, 3) := by decide +kernel
theorem dX4_count_89 : decode cX4_count 89 = .ok (.ireturn, 1) := by decide +kernel
theorem dX4_count_90 : decode cX4_count 90 = .ok (.aload_n 0, 1) := by decide +kernel
theorem dX4_count_91 : decode cX4_count 91 = .ok (.getfield 28, 3) := by decide +kernel
theorem dX4_count_94 : decode cX4_count 94 = .ok (.invokevirtual 188, 3) := by decide +kernel
theorem dX4_count_97 : decode cX4_count 97 = .ok (.ireturn, 1) := by decide +kernel
theorem dX4_count_98 : decode cX4_count 98 = .ok (.aload_n 0, 1) := by decide +kernel
theorem dX4_count_99 : decode cX4_count 99 = .ok (.getfield 39, 3) := by decide +kernel
theorem dX4_count_102 : decode cX4_count 102 = .ok (.ireturn, 1) := by decide +kernel
theorem dX4_count_103 : decode cX4_count 103 = .ok (.aload_n 0, 1) := by decide +kernel
theorem dX4_count_104 : decode cX4_count 104 = .ok (.getfield 35, 3) := by decide +kernel
theorem dX4_count_107 : decode cX4_count 107 = .ok (.getfield 90, 3) := by decide +kernel
theorem dX4_count_110 : decode cX4_count 110 = .ok (.ireturn, 1) := by decide +kernel
theorem dX4_count_111 : decode cX4_count 111 = .ok (.aload_n 0, 1) := by decide +kernel
theorem dX4_count_112 : decode cX4_count 112 = .ok (.getfield 12, 3) := by decide +kernel
theorem dX4_count_115 : decode cX4_count 115 = .ok (.getfield 68, 3) := by decide +kernel
theorem dX4_count_118 : decode cX4_count 118 = .ok (.ireturn, 1) := by decide +kernel
theorem dX4_count_119 : decode cX4_count 119 = .ok (.aload_n 0, 1) := by decide +kernel
theorem dX4_count_120 : decode cX4_count 120 = .ok (.getfield 62, 3) := by decide +kernel
theorem dX4_count_123 : decode cX4_count 123 = .ok (.ireturn, 1) := by decide +kernel
theorem dX4_count_124 : decode cX4_count 124 = .ok (.aload_n 0, 1) := by decide +kernel
theorem dX4_count_125 : decode cX4_count 125 = .ok (.getfield 65, 3) := by decide +kernel
theorem dX4_count_128 : decode cX4_count 128 = .ok (.ireturn, 1) := by decide +kernel
theorem dX4_count_129 : decode cX4_count 129 = .ok (.bipush (-102), 2) := by decide +kernel
theorem dX4_count_131 : decode cX4_count 131 = .ok (.ireturn, 1) := by decide +kernel
theorem dX4_digest_0 : decode cX4_digest 0 = .ok (.ldc2_w 191, 3) := by decide +kernel
theorem dX4_digest_3 : decode cX4_digest 3 = .ok (.lstore_n 1, 1) := by decide +kernel
theorem dX4_digest_4 : decode cX4_digest 4 = .ok (.iconst 0, 1) := by decide +kernel
theorem dX4_digest_5 : decode cX4_digest 5 = .ok (.istore_n 3, 1) := by decide +kernel
theorem dX4_digest_6 : decode cX4_digest 6 = .ok (.iload_n 3, 1) := by decide +kernel
theorem dX4_digest_7 : decode cX4_digest 7 = .ok (.aload_n 0, 1) := by decide +kernel
theorem dX4_digest_8 : decode cX4_digest 8 = .ok (.getfield 19, 3) := by decide +kernel
theorem dX4_digest_11 : decode cX4_digest 11 = .ok (.getfield 91, 3) := by decide +kernel
theorem dX4_digest_14 : decode cX4_digest 14 = .ok (.if_icmp .ge 38, 3) := by decide +kernel
theorem dX4_digest_17 : decode cX4_digest 17 = .ok (.iconst 0, 1) := by decide +kernel
theorem dX4_digest_18 : decode cX4_digest 18 = .ok (.istore 4, 2) := by decide +kernel
theorem dX4_digest_20 : decode cX4_digest 20 = .ok (.iload 4, 2) := by decide +kernel
theorem dX4_digest_22 : decode cX4_digest 22 = .ok (.bipush 6, 2) := by decide +kernel
theorem dX4_digest_24 : decode cX4_digest 24 = .ok (.if_icmp .gt 22, 3) := by decide +kernel
theorem dX4_digest_27 : decode cX4_digest 27 = .ok (.lload_n 1, 1) := by decide +kernel
theorem dX4_digest_28 : decode cX4_digest 28 = .ok (.aload_n 0, 1) := by decide +kernel
theorem dX4_digest_29 : decode cX4_digest 29 = .ok (.iload_n 3, 1) := by decide +kernel
theorem dX4_digest_30 : decode cX4_digest 30 = .ok (.iload 4, 2) := by decide +kernel
theorem dX4_digest_32 : decode cX4_digest 32 = .ok (.invokevirtual 193, 3) := by decide +kernel
theorem dX4_digest_35 : decode cX4_digest 35 = .ok (.i2l, 1) := by decide +kernel
theorem dX4_digest_36 : decode cX4_digest 36 = .ok (.invokestatic 197, 3) := by decide +kernel
theorem dX4_digest_39 : decode cX4_digest 39 = .ok (.lstore_n 1, 1) := by decide +kernel
theorem dX4_digest_40 : decode cX4_digest 40 = .ok (.iinc 4 1, 3) := by decide +kernel
theorem dX4_digest_43 : decode cX4_digest 43 = .ok (.goto (-23), 3) := by decide +kernel
theorem dX4_digest_46 : decode cX4_digest 46 = .ok (.iinc 3 1, 3) := by decide +kernel
theorem dX4_digest_49 : decode cX4_digest 49 = .ok (.goto (-43), 3) := by decide +kernel
theorem dX4_digest_52 : decode cX4_digest 52 = .ok (.iconst 0, 1) := by decide +kernel
theorem dX4_digest_53 : decode cX4_digest 53 = .ok (.istore_n 3, 1) := by decide +kernel
theorem dX4_digest_54 : decode cX4_digest 54 = .ok (.iload_n 3, 1) := by decide +kernel
theorem dX4_digest_55 : decode cX4_digest 55 = .ok (.aload_n 0, 1) := by decide +kernel
theorem dX4_digest_56 : decode cX4_digest 56 = .ok (.getfield 28, 3) := by decide +kernel
theorem dX4_digest_59 : decode cX4_digest 59 = .ok (.getfield 87, 3) := by decide +kernel
theorem dX4_digest_62 : decode cX4_digest 62 = .ok (.if_icmp .ge 23, 3) := by decide +kernel
theorem dX4_digest_65 : decode cX4_digest 65 = .ok (.lload_n 1, 1) := by decide +kernel
theorem dX4_digest_66 : decode cX4_digest 66 = .ok (.aload_n 0, 1) := by decide +kernel
theorem dX4_digest_67 : decode cX4_digest 67 = .ok (.getfield 28, 3) := by decide +kernel
theorem dX4_digest_70 : decode cX4_digest 70 = .ok (.iload_n 3, 1) := by decide +kernel
theorem dX4_digest_71 : decode cX4_digest 71 = .ok (.invokevirtual 138, 3) := by decide +kernel
theorem dX4_digest_74 : decode cX4_digest 74 = .ok (.i2l, 1) := by decide +kernel
theorem dX4_digest_75 : decode cX4_digest 75 = .ok (.invokestatic 197, 3) := by decide +kernel
theorem dX4_digest_78 : decode cX4_digest 78 = .ok (.lstore_n 1, 1) := by decide +kernel
theorem dX4_digest_79 : decode cX4_digest 79 = .ok (.iinc 3 1, 3) := by decide +kernel
theorem dX4_digest_82 : decode cX4_digest 82 = .ok (.goto (-28), 3) := by decide +kernel
theorem dX4_digest_85 : decode cX4_digest 85 = .ok (.aload_n 0, 1) := by decide +kernel
theorem dX4_digest_86 : decode cX4_digest 86 = .ok (.invokevirtual 141, 3) := by decide +kernel
theorem dX4_digest_89 : decode cX4_digest 89 = .ok (.ifCond .ne 62, 3) := by decide +kernel
theorem dX4_digest_92 : decode cX4_digest 92 = .ok (.lload_n 1, 1) := by decide +kernel
theorem dX4_digest_93 : decode cX4_digest 93 = .ok (.aload_n 0, 1) := by decide +kernel
theorem dX4_digest_94 : decode cX4_digest 94 = .ok (.iconst 0, 1) := by decide +kernel
theorem dX4_digest_95 : decode cX4_digest 95 = .ok (.invokevirtual 201, 3) := by decide +kernel
theorem dX4_digest_98 : decode cX4_digest 98 = .ok (.i2l, 1) := by decide +kernel
theorem dX4_digest_99 : decode cX4_digest 99 = .ok (.invokestatic 197, 3) := by decide +kernel
theorem dX4_digest_102 : decode cX4_digest 102 = .ok (.lstore_n 1, 1) := by decide +kernel
theorem dX4_digest_103 : decode cX4_digest 103 = .ok (.lload_n 1, 1) := by decide +kernel
theorem dX4_digest_104 : decode cX4_digest 104 = .ok (.aload_n 0, 1) := by decide +kernel
theorem dX4_digest_105 : decode cX4_digest 105 = .ok (.iconst 0, 1) := by decide +kernel
theorem dX4_digest_106 : decode cX4_digest 106 = .ok (.invokevirtual 204, 3) := by decide +kernel
theorem dX4_digest_109 : decode cX4_digest 109 = .ok (.i2l, 1) := by decide +kernel
theorem dX4_digest_110 : decode cX4_digest 110 = .ok (.invokestatic 197, 3) := by decide +kernel
theorem dX4_digest_113 : decode cX4_digest 113 = .ok (.lstore_n 1, 1) := by decide +kernel
theorem dX4_digest_114 : decode cX4_digest 114 = .ok (.lload_n 1, 1) := by decide +kernel
theorem dX4_digest_115 : decode cX4_digest 115 = .ok (.aload_n 0, 1) := by decide +kernel
theorem dX4_digest_116 : decode cX4_digest 116 = .ok (.iconst 1, 1) := by decide +kernel
theorem dX4_digest_117 : decode cX4_digest 117 = .ok (.invokevirtual 204, 3) := by decide +kernel
theorem dX4_digest_120 : decode cX4_digest 120 = .ok (.i2l, 1) := by decide +kernel
theorem dX4_digest_121 : decode cX4_digest 121 = .ok (.invokestatic 197, 3) := by decide +kernel
theorem dX4_digest_124 : decode cX4_digest 124 = .ok (.lstore_n 1, 1) := by decide +kernel
theorem dX4_digest_125 : decode cX4_digest 125 = .ok (.lload_n 1, 1) := by decide +kernel
theorem dX4_digest_126 : decode cX4_digest 126 = .ok (.aload_n 0, 1) := by decide +kernel
theorem dX4_digest_127 : decode cX4_digest 127 = .ok (.bipush 10, 2) := by decide +kernel
theorem dX4_digest_129 : decode cX4_digest 129 = .ok (.iconst 0, 1) := by decide +kernel
theorem dX4_digest_130 : decode cX4_digest 130 = .ok (.invokevirtual 207, 3) := by decide +kernel
theorem dX4_digest_133 : decode cX4_digest 133 = .ok (.i2l, 1) := by decide +kernel
theorem dX4_digest_134 : decode cX4_digest 134 = .ok (.invokestatic 197, 3) := by decide +kernel
theorem dX4_digest_137 : decode cX4_digest 137 = .ok (.lstore_n 1, 1) := by decide +kernel
theorem dX4_digest_138 : decode cX4_digest 138 = .ok (.lload_n 1, 1) := by decide +kernel
theorem dX4_digest_139 : decode cX4_digest 139 = .ok (.aload_n 0, 1) := by decide +kernel
theorem dX4_digest_140 : decode cX4_digest 140 = .ok (.bipush 10, 2) := by decide +kernel
theorem dX4_digest_142 : decode cX4_digest 142 = .ok (.iconst 1, 1) := by decide +kernel
theorem dX4_digest_143 : decode cX4_digest 143 = .ok (.invokevirtual 207, 3) := by decide +kernel
theorem dX4_digest_146 : decode cX4_digest 146 = .ok (.i2l, 1) := by decide +kernel
theorem dX4_digest_147 : decode cX4_digest 147 = .ok (.invokestatic 197, 3) := by decide +kernel
theorem dX4_digest_150 : decode cX4_digest 150 = .ok (.lstore_n 1, 1) := by decide +kernel
theorem dX4_digest_151 : decode cX4_digest 151 = .ok (.iconst 0, 1) := by decide +kernel
theorem dX4_digest_152 : decode cX4_digest 152 = .ok (.istore_n 3, 1) := by decide +kernel
theorem dX4_digest_153 : decode cX4_digest 153 = .ok (.iload_n 3, 1) := by decide +kernel
theorem dX4_digest_154 : decode cX4_digest 154 = .ok (.aload_n 0, 1) := by decide +kernel
theorem dX4_digest_155 : decode cX4_digest 155 = .ok (.getfield 12, 3) := by decide +kernel
theorem dX4_digest_158 : decode cX4_digest 158 = .ok (.getfield 68, 3) := by decide +kernel
theorem dX4_digest_161 : decode cX4_digest 161 = .ok (.if_icmp .ge 23, 3) := by decide +kernel
theorem dX4_digest_164 : decode cX4_digest 164 = .ok (.lload_n 1, 1) := by decide +kernel
theorem dX4_digest_165 : decode cX4_digest 165 = .ok (.aload_n 0, 1) := by decide +kernel
theorem dX4_digest_166 : decode cX4_digest 166 = .ok (.getfield 12, 3) := by decide +kernel
theorem dX4_digest_169 : decode cX4_digest 169 = .ok (.iload_n 3, 1) := by decide +kernel
theorem dX4_digest_170 : decode cX4_digest 170 = .ok (.invokevirtual 210, 3) := by decide +kernel
theorem dX4_digest_173 : decode cX4_digest 173 = .ok (.i2l, 1) := by decide +kernel
theorem dX4_digest_174 : decode cX4_digest 174 = .ok (.invokestatic 197, 3) := by decide +kernel
theorem dX4_digest_177 : decode cX4_digest 177 = .ok (.lstore_n 1, 1) := by decide +kernel
theorem dX4_digest_178 : decode cX4_digest 178 = .ok (.iinc 3 1, 3) := by decide +kernel
theorem dX4_digest_181 : decode cX4_digest 181 = .ok (.goto (-28), 3) := by decide +kernel
theorem dX4_digest_184 : decode cX4_digest 184 = .ok (.iconst 0, 1) := by decide +kernel
theorem dX4_digest_185 : decode cX4_digest 185 = .ok (.istore_n 3, 1) := by decide +kernel
theorem dX4_digest_186 : decode cX4_digest 186 = .ok (.iload_n 3, 1) := by decide +kernel
theorem dX4_digest_187 : decode cX4_digest 187 = .ok (.bipush 9, 2) := by decide +kernel
theorem dX4_digest_189 : decode cX4_digest 189 = .ok (.if_icmp .gt 20, 3) := by decide +kernel
theorem dX4_digest_192 : decode cX4_digest 192 = .ok (.lload_n 1, 1) := by decide +kernel
theorem dX4_digest_193 : decode cX4_digest 193 = .ok (.aload_n 0, 1) := by decide +kernel
theorem dX4_digest_194 : decode cX4_digest 194 = .ok (.iload_n 3, 1) := by decide +kernel
theorem dX4_digest_195 : decode cX4_digest 195 = .ok (.invokevirtual 213, 3) := by decide +kernel
theorem dX4_digest_198 : decode cX4_digest 198 = .ok (.i2l, 1) := by decide +kernel
theorem dX4_digest_199 : decode cX4_digest 199 = .ok (.invokestatic 197, 3) := by decide +kernel
theorem dX4_digest_202 : decode cX4_digest 202 = .ok (.lstore_n 1, 1) := by decide +kernel
theorem dX4_digest_203 : decode cX4_digest 203 = .ok (.iinc 3 1, 3) := by decide +kernel
theorem dX4_digest_206 : decode cX4_digest 206 = .ok (.goto (-20), 3) := by decide +kernel
theorem dX4_digest_209 : decode cX4_digest 209 = .ok (.lload_n 1, 1) := by decide +kernel
theorem dX4_digest_210 : decode cX4_digest 210 = .ok (.lreturn, 1) := by decide +kernel
theorem dX4_noGym_0 : decode cX4_noGym 0 = .ok (.aload_n 0, 1) := by decide +kernel
theorem dX4_noGym_1 : decode cX4_noGym 1 = .ok (.getfield 19, 3) := by decide +kernel
theorem dX4_noGym_4 : decode cX4_noGym 4 = .ok (.getfield 91, 3) := by decide +kernel
theorem dX4_noGym_7 : decode cX4_noGym 7 = .ok (.ifCond .ne 7, 3) := by decide +kernel
theorem dX4_noGym_10 : decode cX4_noGym 10 = .ok (.iconst 1, 1) := by decide +kernel
theorem dX4_noGym_11 : decode cX4_noGym 11 = .ok (.goto 4, 3) := by decide +kernel
theorem dX4_noGym_14 : decode cX4_noGym 14 = .ok (.iconst 0, 1) := by decide +kernel
theorem dX4_noGym_15 : decode cX4_noGym 15 = .ok (.ireturn, 1) := by decide +kernel
theorem dX4_isScore_0 : decode cX4_isScore 0 = .ok (.iload_n 0, 1) := by decide +kernel
theorem dX4_isScore_1 : decode cX4_isScore 1 = .ok (.bipush (-100), 2) := by decide +kernel
theorem dX4_isScore_3 : decode cX4_isScore 3 = .ok (.if_icmp .lt 13, 3) := by decide +kernel
theorem dX4_isScore_6 : decode cX4_isScore 6 = .ok (.iload_n 0, 1) := by decide +kernel
theorem dX4_isScore_7 : decode cX4_isScore 7 = .ok (.bipush 100, 2) := by decide +kernel
theorem dX4_isScore_9 : decode cX4_isScore 9 = .ok (.if_icmp .gt 7, 3) := by decide +kernel
theorem dX4_isScore_12 : decode cX4_isScore 12 = .ok (.iconst 1, 1) := by decide +kernel
theorem dX4_isScore_13 : decode cX4_isScore 13 = .ok (.goto 4, 3) := by decide +kernel
theorem dX4_isScore_16 : decode cX4_isScore 16 = .ok (.iconst 0, 1) := by decide +kernel
theorem dX4_isScore_17 : decode cX4_isScore 17 = .ok (.ireturn, 1) := by decide +kernel
theorem dX4_asksAboveOrBelow_0 : decode cX4_asksAboveOrBelow 0 = .ok (.iload_n 0, 1) := by decide +kernel
theorem dX4_asksAboveOrBelow_1 : decode cX4_asksAboveOrBelow 1 = .ok (.ifCond .eq 8, 3) := by decide +kernel
theorem dX4_asksAboveOrBelow_4 : decode cX4_asksAboveOrBelow 4 = .ok (.iload_n 0, 1) := by decide +kernel
theorem dX4_asksAboveOrBelow_5 : decode cX4_asksAboveOrBelow 5 = .ok (.iconst 1, 1) := by decide +kernel
theorem dX4_asksAboveOrBelow_6 : decode cX4_asksAboveOrBelow 6 = .ok (.if_icmp .ne 7, 3) := by decide +kernel
theorem dX4_asksAboveOrBelow_9 : decode cX4_asksAboveOrBelow 9 = .ok (.iconst 1, 1) := by decide +kernel
theorem dX4_asksAboveOrBelow_10 : decode cX4_asksAboveOrBelow 10 = .ok (.goto 4, 3) := by decide +kernel
theorem dX4_asksAboveOrBelow_13 : decode cX4_asksAboveOrBelow 13 = .ok (.iconst 0, 1) := by decide +kernel
theorem dX4_asksAboveOrBelow_14 : decode cX4_asksAboveOrBelow 14 = .ok (.ireturn, 1) := by decide +kernel
theorem dX4_mixed_0 : decode cX4_mixed 0 = .ok (.ldc2_w 216, 3) := by decide +kernel
theorem dX4_mixed_3 : decode cX4_mixed 3 = .ok (.lload_n 0, 1) := by decide +kernel
theorem dX4_mixed_4 : decode cX4_mixed 4 = .ok (.lmul, 1) := by decide +kernel
theorem dX4_mixed_5 : decode cX4_mixed 5 = .ok (.lload_n 2, 1) := by decide +kernel
theorem dX4_mixed_6 : decode cX4_mixed 6 = .ok (.ladd, 1) := by decide +kernel
theorem dX4_mixed_7 : decode cX4_mixed 7 = .ok (.lreturn, 1) := by decide +kernel
theorem dX4_nextSeed_0 : decode cX4_nextSeed 0 = .ok (.ldc2_w 218, 3) := by decide +kernel
theorem dX4_nextSeed_3 : decode cX4_nextSeed 3 = .ok (.iload_n 0, 1) := by decide +kernel
theorem dX4_nextSeed_4 : decode cX4_nextSeed 4 = .ok (.i2l, 1) := by decide +kernel
theorem dX4_nextSeed_5 : decode cX4_nextSeed 5 = .ok (.lmul, 1) := by decide +kernel
theorem dX4_nextSeed_6 : decode cX4_nextSeed 6 = .ok (.ldc2_w 220, 3) := by decide +kernel
theorem dX4_nextSeed_9 : decode cX4_nextSeed 9 = .ok (.ladd, 1) := by decide +kernel
theorem dX4_nextSeed_10 : decode cX4_nextSeed 10 = .ok (.ldc2_w 222, 3) := by decide +kernel
theorem dX4_nextSeed_13 : decode cX4_nextSeed 13 = .ok (.lrem, 1) := by decide +kernel
theorem dX4_nextSeed_14 : decode cX4_nextSeed 14 = .ok (.l2i, 1) := by decide +kernel
theorem dX4_nextSeed_15 : decode cX4_nextSeed 15 = .ok (.ireturn, 1) := by decide +kernel
theorem dX4_drawOfTen_0 : decode cX4_drawOfTen 0 = .ok (.iload_n 0, 1) := by decide +kernel
theorem dX4_drawOfTen_1 : decode cX4_drawOfTen 1 = .ok (.ldc 224, 2) := by decide +kernel
theorem dX4_drawOfTen_3 : decode cX4_drawOfTen 3 = .ok (.idiv, 1) := by decide +kernel
theorem dX4_drawOfTen_4 : decode cX4_drawOfTen 4 = .ok (.bipush 10, 2) := by decide +kernel
theorem dX4_drawOfTen_6 : decode cX4_drawOfTen 6 = .ok (.irem, 1) := by decide +kernel
theorem dX4_drawOfTen_7 : decode cX4_drawOfTen 7 = .ok (.ireturn, 1) := by decide +kernel
theorem dX4_inLowestTerms_0 : decode cX4_inLowestTerms 0 = .ok (.iload_n 0, 1) := by decide +kernel
theorem dX4_inLowestTerms_1 : decode cX4_inLowestTerms 1 = .ok (.iload_n 1, 1) := by decide +kernel
theorem dX4_inLowestTerms_2 : decode cX4_inLowestTerms 2 = .ok (.invokestatic 225, 3) := by decide +kernel
theorem dX4_inLowestTerms_5 : decode cX4_inLowestTerms 5 = .ok (.istore_n 3, 1) := by decide +kernel
theorem dX4_inLowestTerms_6 : decode cX4_inLowestTerms 6 = .ok (.iload_n 3, 1) := by decide +kernel
theorem dX4_inLowestTerms_7 : decode cX4_inLowestTerms 7 = .ok (.ifCond .ne 13, 3) := by decide +kernel
theorem dX4_inLowestTerms_10 : decode cX4_inLowestTerms 10 = .ok (.iload_n 2, 1) := by decide +kernel
theorem dX4_inLowestTerms_11 : decode cX4_inLowestTerms 11 = .ok (.ifCond .ne 7, 3) := by decide +kernel
theorem dX4_inLowestTerms_14 : decode cX4_inLowestTerms 14 = .ok (.iload_n 0, 1) := by decide +kernel
theorem dX4_inLowestTerms_15 : decode cX4_inLowestTerms 15 = .ok (.goto 4, 3) := by decide +kernel
theorem dX4_inLowestTerms_18 : decode cX4_inLowestTerms 18 = .ok (.iload_n 1, 1) := by decide +kernel
theorem dX4_inLowestTerms_19 : decode cX4_inLowestTerms 19 = .ok (.ireturn, 1) := by decide +kernel
theorem dX4_inLowestTerms_20 : decode cX4_inLowestTerms 20 = .ok (.iload_n 2, 1) := by decide +kernel
theorem dX4_inLowestTerms_21 : decode cX4_inLowestTerms 21 = .ok (.ifCond .ne 7, 3) := by decide +kernel
theorem dX4_inLowestTerms_24 : decode cX4_inLowestTerms 24 = .ok (.iload_n 0, 1) := by decide +kernel
theorem dX4_inLowestTerms_25 : decode cX4_inLowestTerms 25 = .ok (.goto 4, 3) := by decide +kernel
theorem dX4_inLowestTerms_28 : decode cX4_inLowestTerms 28 = .ok (.iload_n 1, 1) := by decide +kernel
theorem dX4_inLowestTerms_29 : decode cX4_inLowestTerms 29 = .ok (.iload_n 3, 1) := by decide +kernel
theorem dX4_inLowestTerms_30 : decode cX4_inLowestTerms 30 = .ok (.idiv, 1) := by decide +kernel
theorem dX4_inLowestTerms_31 : decode cX4_inLowestTerms 31 = .ok (.ireturn, 1) := by decide +kernel
theorem dX4_commonDivisor_0 : decode cX4_commonDivisor 0 = .ok (.iload_n 0, 1) := by decide +kernel
theorem dX4_commonDivisor_1 : decode cX4_commonDivisor 1 = .ok (.istore_n 2, 1) := by decide +kernel
theorem dX4_commonDivisor_2 : decode cX4_commonDivisor 2 = .ok (.iload_n 1, 1) := by decide +kernel
theorem dX4_commonDivisor_3 : decode cX4_commonDivisor 3 = .ok (.istore_n 3, 1) := by decide +kernel
theorem dX4_commonDivisor_4 : decode cX4_commonDivisor 4 = .ok (.iconst 0, 1) := by decide +kernel
theorem dX4_commonDivisor_5 : decode cX4_commonDivisor 5 = .ok (.istore 4, 2) := by decide +kernel
theorem dX4_commonDivisor_7 : decode cX4_commonDivisor 7 = .ok (.iload 4, 2) := by decide +kernel
theorem dX4_commonDivisor_9 : decode cX4_commonDivisor 9 = .ok (.bipush 64, 2) := by decide +kernel
theorem dX4_commonDivisor_11 : decode cX4_commonDivisor 11 = .ok (.if_icmp .ge 23, 3) := by decide +kernel
theorem dX4_commonDivisor_14 : decode cX4_commonDivisor 14 = .ok (.iload_n 3, 1) := by decide +kernel
theorem dX4_commonDivisor_15 : decode cX4_commonDivisor 15 = .ok (.ifCond .eq 19, 3) := by decide +kernel
theorem dX4_commonDivisor_18 : decode cX4_commonDivisor 18 = .ok (.iload_n 2, 1) := by decide +kernel
theorem dX4_commonDivisor_19 : decode cX4_commonDivisor 19 = .ok (.iload_n 3, 1) := by decide +kernel
theorem dX4_commonDivisor_20 : decode cX4_commonDivisor 20 = .ok (.irem, 1) := by decide +kernel
theorem dX4_commonDivisor_21 : decode cX4_commonDivisor 21 = .ok (.istore 5, 2) := by decide +kernel
theorem dX4_commonDivisor_23 : decode cX4_commonDivisor 23 = .ok (.iload_n 3, 1) := by decide +kernel
theorem dX4_commonDivisor_24 : decode cX4_commonDivisor 24 = .ok (.istore_n 2, 1) := by decide +kernel
theorem dX4_commonDivisor_25 : decode cX4_commonDivisor 25 = .ok (.iload 5, 2) := by decide +kernel
theorem dX4_commonDivisor_27 : decode cX4_commonDivisor 27 = .ok (.istore_n 3, 1) := by decide +kernel
theorem dX4_commonDivisor_28 : decode cX4_commonDivisor 28 = .ok (.iinc 4 1, 3) := by decide +kernel
theorem dX4_commonDivisor_31 : decode cX4_commonDivisor 31 = .ok (.goto (-24), 3) := by decide +kernel
theorem dX4_commonDivisor_34 : decode cX4_commonDivisor 34 = .ok (.iload_n 2, 1) := by decide +kernel
theorem dX4_commonDivisor_35 : decode cX4_commonDivisor 35 = .ok (.ireturn, 1) := by decide +kernel
theorem dX4_findFinest_0 : decode cX4_findFinest 0 = .ok (.aload_n 0, 1) := by decide +kernel
theorem dX4_findFinest_1 : decode cX4_findFinest 1 = .ok (.iload_n 1, 1) := by decide +kernel
theorem dX4_findFinest_2 : decode cX4_findFinest 2 = .ok (.invokevirtual 228, 3) := by decide +kernel
theorem dX4_findFinest_5 : decode cX4_findFinest 5 = .ok (.istore_n 2, 1) := by decide +kernel
theorem dX4_findFinest_6 : decode cX4_findFinest 6 = .ok (.iconst 0, 1) := by decide +kernel
theorem dX4_findFinest_7 : decode cX4_findFinest 7 = .ok (.istore_n 3, 1) := by decide +kernel
theorem dX4_findFinest_8 : decode cX4_findFinest 8 = .ok (.iconst 0, 1) := by decide +kernel
theorem dX4_findFinest_9 : decode cX4_findFinest 9 = .ok (.istore 4, 2) := by decide +kernel
theorem dX4_findFinest_11 : decode cX4_findFinest 11 = .ok (.iload 4, 2) := by decide +kernel
theorem dX4_findFinest_13 : decode cX4_findFinest 13 = .ok (.iload_n 2, 1) := by decide +kernel
theorem dX4_findFinest_14 : decode cX4_findFinest 14 = .ok (.if_icmp .ge 48, 3) := by decide +kernel
theorem dX4_findFinest_17 : decode cX4_findFinest 17 = .ok (.aload_n 0, 1) := by decide +kernel
theorem dX4_findFinest_18 : decode cX4_findFinest 18 = .ok (.iload 4, 2) := by decide +kernel
theorem dX4_findFinest_20 : decode cX4_findFinest 20 = .ok (.iload_n 1, 1) := by decide +kernel
theorem dX4_findFinest_21 : decode cX4_findFinest 21 = .ok (.invokevirtual 231, 3) := by decide +kernel
theorem dX4_findFinest_24 : decode cX4_findFinest 24 = .ok (.ifCond .eq 32, 3) := by decide +kernel
theorem dX4_findFinest_27 : decode cX4_findFinest 27 = .ok (.aload_n 0, 1) := by decide +kernel
theorem dX4_findFinest_28 : decode cX4_findFinest 28 = .ok (.getfield 56, 3) := by decide +kernel
theorem dX4_findFinest_31 : decode cX4_findFinest 31 = .ok (.invokevirtual 150, 3) := by decide +kernel
theorem dX4_findFinest_34 : decode cX4_findFinest 34 = .ok (.istore 5, 2) := by decide +kernel
theorem dX4_findFinest_36 : decode cX4_findFinest 36 = .ok (.iload 5, 2) := by decide +kernel
theorem dX4_findFinest_38 : decode cX4_findFinest 38 = .ok (.iload_n 3, 1) := by decide +kernel
theorem dX4_findFinest_39 : decode cX4_findFinest 39 = .ok (.if_icmp .le 17, 3) := by decide +kernel
theorem dX4_findFinest_42 : decode cX4_findFinest 42 = .ok (.iload 5, 2) := by decide +kernel
theorem dX4_findFinest_44 : decode cX4_findFinest 44 = .ok (.istore_n 3, 1) := by decide +kernel
theorem dX4_findFinest_45 : decode cX4_findFinest 45 = .ok (.aload_n 0, 1) := by decide +kernel
theorem dX4_findFinest_46 : decode cX4_findFinest 46 = .ok (.getfield 59, 3) := by decide +kernel
theorem dX4_findFinest_49 : decode cX4_findFinest 49 = .ok (.aload_n 0, 1) := by decide +kernel
theorem dX4_findFinest_50 : decode cX4_findFinest 50 = .ok (.getfield 56, 3) := by decide +kernel
theorem dX4_findFinest_53 : decode cX4_findFinest 53 = .ok (.invokevirtual 169, 3) := by decide +kernel
theorem dX4_findFinest_56 : decode cX4_findFinest 56 = .ok (.iinc 4 1, 3) := by decide +kernel
theorem dX4_findFinest_59 : decode cX4_findFinest 59 = .ok (.goto (-48), 3) := by decide +kernel
theorem dX4_findFinest_62 : decode cX4_findFinest 62 = .ok (.return_, 1) := by decide +kernel
theorem dX4_picksOf_0 : decode cX4_picksOf 0 = .ok (.iconst 1, 1) := by decide +kernel
theorem dX4_picksOf_1 : decode cX4_picksOf 1 = .ok (.istore_n 2, 1) := by decide +kernel
theorem dX4_picksOf_2 : decode cX4_picksOf 2 = .ok (.iconst 0, 1) := by decide +kernel
theorem dX4_picksOf_3 : decode cX4_picksOf 3 = .ok (.istore_n 3, 1) := by decide +kernel
theorem dX4_picksOf_4 : decode cX4_picksOf 4 = .ok (.iload_n 3, 1) := by decide +kernel
theorem dX4_picksOf_5 : decode cX4_picksOf 5 = .ok (.iload_n 1, 1) := by decide +kernel
theorem dX4_picksOf_6 : decode cX4_picksOf 6 = .ok (.if_icmp .ge 19, 3) := by decide +kernel
theorem dX4_picksOf_9 : decode cX4_picksOf 9 = .ok (.iload_n 2, 1) := by decide +kernel
theorem dX4_picksOf_10 : decode cX4_picksOf 10 = .ok (.aload_n 0, 1) := by decide +kernel
theorem dX4_picksOf_11 : decode cX4_picksOf 11 = .ok (.getfield 19, 3) := by decide +kernel
theorem dX4_picksOf_14 : decode cX4_picksOf 14 = .ok (.getfield 91, 3) := by decide +kernel
theorem dX4_picksOf_17 : decode cX4_picksOf 17 = .ok (.imul, 1) := by decide +kernel
theorem dX4_picksOf_18 : decode cX4_picksOf 18 = .ok (.istore_n 2, 1) := by decide +kernel
theorem dX4_picksOf_19 : decode cX4_picksOf 19 = .ok (.iinc 3 1, 3) := by decide +kernel
theorem dX4_picksOf_22 : decode cX4_picksOf 22 = .ok (.goto (-18), 3) := by decide +kernel
theorem dX4_picksOf_25 : decode cX4_picksOf 25 = .ok (.iload_n 2, 1) := by decide +kernel
theorem dX4_picksOf_26 : decode cX4_picksOf 26 = .ok (.ireturn, 1) := by decide +kernel
theorem dX4_pickByNumber_0 : decode cX4_pickByNumber 0 = .ok (.aload_n 0, 1) := by decide +kernel
theorem dX4_pickByNumber_1 : decode cX4_pickByNumber 1 = .ok (.getfield 56, 3) := by decide +kernel
theorem dX4_pickByNumber_4 : decode cX4_pickByNumber 4 = .ok (.iconst 0, 1) := by decide +kernel
theorem dX4_pickByNumber_5 : decode cX4_pickByNumber 5 = .ok (.putfield 87, 3) := by decide +kernel
theorem dX4_pickByNumber_8 : decode cX4_pickByNumber 8 = .ok (.aload_n 0, 1) := by decide +kernel
theorem dX4_pickByNumber_9 : decode cX4_pickByNumber 9 = .ok (.iload_n 2, 1) := by decide +kernel
theorem dX4_pickByNumber_10 : decode cX4_pickByNumber 10 = .ok (.iconst 1, 1) := by decide +kernel
theorem dX4_pickByNumber_11 : decode cX4_pickByNumber 11 = .ok (.isub, 1) := by decide +kernel
theorem dX4_pickByNumber_12 : decode cX4_pickByNumber 12 = .ok (.invokevirtual 228, 3) := by decide +kernel
theorem dX4_pickByNumber_15 : decode cX4_pickByNumber 15 = .ok (.istore_n 3, 1) := by decide +kernel
theorem dX4_pickByNumber_16 : decode cX4_pickByNumber 16 = .ok (.iconst 0, 1) := by decide +kernel
theorem dX4_pickByNumber_17 : decode cX4_pickByNumber 17 = .ok (.istore 4, 2) := by decide +kernel
theorem dX4_pickByNumber_19 : decode cX4_pickByNumber 19 = .ok (.iload 4, 2) := by decide +kernel
theorem dX4_pickByNumber_21 : decode cX4_pickByNumber 21 = .ok (.iload_n 2, 1) := by decide +kernel
theorem dX4_pickByNumber_22 : decode cX4_pickByNumber 22 = .ok (.if_icmp .ge 71, 3) := by decide +kernel
theorem dX4_pickByNumber_25 : decode cX4_pickByNumber 25 = .ok (.iload_n 3, 1) := by decide +kernel
theorem dX4_pickByNumber_26 : decode cX4_pickByNumber 26 = .ok (.ifCond .eq 13, 3) := by decide +kernel
theorem dX4_pickByNumber_29 : decode cX4_pickByNumber 29 = .ok (.aload_n 0, 1) := by decide +kernel
theorem dX4_pickByNumber_30 : decode cX4_pickByNumber 30 = .ok (.getfield 19, 3) := by decide +kernel
theorem dX4_pickByNumber_33 : decode cX4_pickByNumber 33 = .ok (.getfield 91, 3) := by decide +kernel
theorem dX4_pickByNumber_36 : decode cX4_pickByNumber 36 = .ok (.ifCond .ne 5, 3) := by decide +kernel
theorem dX4_pickByNumber_39 : decode cX4_pickByNumber 39 = .ok (.iconst 0, 1) := by decide +kernel
theorem dX4_pickByNumber_40 : decode cX4_pickByNumber 40 = .ok (.ireturn, 1) := by decide +kernel
theorem dX4_pickByNumber_41 : decode cX4_pickByNumber 41 = .ok (.iload_n 1, 1) := by decide +kernel
theorem dX4_pickByNumber_42 : decode cX4_pickByNumber 42 = .ok (.iload_n 3, 1) := by decide +kernel
theorem dX4_pickByNumber_43 : decode cX4_pickByNumber 43 = .ok (.idiv, 1) := by decide +kernel
theorem dX4_pickByNumber_44 : decode cX4_pickByNumber 44 = .ok (.aload_n 0, 1) := by decide +kernel
theorem dX4_pickByNumber_45 : decode cX4_pickByNumber 45 = .ok (.getfield 19, 3) := by decide +kernel
theorem dX4_pickByNumber_48 : decode cX4_pickByNumber 48 = .ok (.getfield 91, 3) := by decide +kernel
theorem dX4_pickByNumber_51 : decode cX4_pickByNumber 51 = .ok (.irem, 1) := by decide +kernel
theorem dX4_pickByNumber_52 : decode cX4_pickByNumber 52 = .ok (.istore 5, 2) := by decide +kernel
theorem dX4_pickByNumber_54 : decode cX4_pickByNumber 54 = .ok (.aload_n 0, 1) := by decide +kernel
theorem dX4_pickByNumber_55 : decode cX4_pickByNumber 55 = .ok (.getfield 56, 3) := by decide +kernel
theorem dX4_pickByNumber_58 : decode cX4_pickByNumber 58 = .ok (.iload 5, 2) := by decide +kernel
theorem dX4_pickByNumber_60 : decode cX4_pickByNumber 60 = .ok (.invokevirtual 109, 3) := by decide +kernel
theorem dX4_pickByNumber_63 : decode cX4_pickByNumber 63 = .ok (.ifCond .eq 5, 3) := by decide +kernel
theorem dX4_pickByNumber_66 : decode cX4_pickByNumber 66 = .ok (.iconst 0, 1) := by decide +kernel
theorem dX4_pickByNumber_67 : decode cX4_pickByNumber 67 = .ok (.ireturn, 1) := by decide +kernel
theorem dX4_pickByNumber_68 : decode cX4_pickByNumber 68 = .ok (.aload_n 0, 1) := by decide +kernel
theorem dX4_pickByNumber_69 : decode cX4_pickByNumber 69 = .ok (.getfield 56, 3) := by decide +kernel
theorem dX4_pickByNumber_72 : decode cX4_pickByNumber 72 = .ok (.iload 5, 2) := by decide +kernel
theorem dX4_pickByNumber_74 : decode cX4_pickByNumber 74 = .ok (.invokevirtual 125, 3) := by decide +kernel
theorem dX4_pickByNumber_77 : decode cX4_pickByNumber 77 = .ok (.iload_n 3, 1) := by decide +kernel
theorem dX4_pickByNumber_78 : decode cX4_pickByNumber 78 = .ok (.aload_n 0, 1) := by decide +kernel
theorem dX4_pickByNumber_79 : decode cX4_pickByNumber 79 = .ok (.getfield 19, 3) := by decide +kernel
theorem dX4_pickByNumber_82 : decode cX4_pickByNumber 82 = .ok (.getfield 91, 3) := by decide +kernel
theorem dX4_pickByNumber_85 : decode cX4_pickByNumber 85 = .ok (.idiv, 1) := by decide +kernel
theorem dX4_pickByNumber_86 : decode cX4_pickByNumber 86 = .ok (.istore_n 3, 1) := by decide +kernel
theorem dX4_pickByNumber_87 : decode cX4_pickByNumber 87 = .ok (.iinc 4 1, 3) := by decide +kernel
theorem dX4_pickByNumber_90 : decode cX4_pickByNumber 90 = .ok (.goto (-71), 3) := by decide +kernel
theorem dX4_pickByNumber_93 : decode cX4_pickByNumber 93 = .ok (.iconst 1, 1) := by decide +kernel
theorem dX4_pickByNumber_94 : decode cX4_pickByNumber 94 = .ok (.ireturn, 1) := by decide +kernel
theorem dX4_chanceOf_0 : decode cX4_chanceOf 0 = .ok (.iload_n 0, 1) := by decide +kernel
theorem dX4_chanceOf_1 : decode cX4_chanceOf 1 = .ok (.iconst 3, 1) := by decide +kernel
theorem dX4_chanceOf_2 : decode cX4_chanceOf 2 = .ok (.if_icmp .ne 7, 3) := by decide +kernel
theorem dX4_chanceOf_5 : decode cX4_chanceOf 5 = .ok (.iconst 0, 1) := by decide +kernel
theorem dX4_chanceOf_6 : decode cX4_chanceOf 6 = .ok (.goto 10, 3) := by decide +kernel
theorem dX4_chanceOf_9 : decode cX4_chanceOf 9 = .ok (.iconst 0, 1) := by decide +kernel
theorem dX4_chanceOf_10 : decode cX4_chanceOf 10 = .ok (.iload_n 2, 1) := by decide +kernel
theorem dX4_chanceOf_11 : decode cX4_chanceOf 11 = .ok (.iconst 2, 1) := by decide +kernel
theorem dX4_chanceOf_12 : decode cX4_chanceOf 12 = .ok (.isub, 1) := by decide +kernel
theorem dX4_chanceOf_13 : decode cX4_chanceOf 13 = .ok (.invokestatic 234, 3) := by decide +kernel
theorem dX4_chanceOf_16 : decode cX4_chanceOf 16 = .ok (.istore_n 3, 1) := by decide +kernel
theorem dX4_chanceOf_17 : decode cX4_chanceOf 17 = .ok (.iconst 0, 1) := by decide +kernel
theorem dX4_chanceOf_18 : decode cX4_chanceOf 18 = .ok (.iload_n 1, 1) := by decide +kernel
theorem dX4_chanceOf_19 : decode cX4_chanceOf 19 = .ok (.iload_n 3, 1) := by decide +kernel
theorem dX4_chanceOf_20 : decode cX4_chanceOf 20 = .ok (.isub, 1) := by decide +kernel
theorem dX4_chanceOf_21 : decode cX4_chanceOf 21 = .ok (.invokestatic 234, 3) := by decide +kernel
theorem dX4_chanceOf_24 : decode cX4_chanceOf 24 = .ok (.ireturn, 1) := by decide +kernel
theorem dX5_init_0 : decode cX5_init 0 = .ok (.aload_n 0, 1) := by decide +kernel
theorem dX5_init_1 : decode cX5_init 1 = .ok (.invokespecial 1, 3) := by decide +kernel
theorem dX5_init_4 : decode cX5_init 4 = .ok (.aload_n 0, 1) := by decide +kernel
theorem dX5_init_5 : decode cX5_init 5 = .ok (.bipush 30, 2) := by decide +kernel
theorem dX5_init_7 : decode cX5_init 7 = .ok (.newarray .int, 2) := by decide +kernel
theorem dX5_init_9 : decode cX5_init 9 = .ok (.putfield 7, 3) := by decide +kernel
theorem dX5_init_12 : decode cX5_init 12 = .ok (.aload_n 0, 1) := by decide +kernel
theorem dX5_init_13 : decode cX5_init 13 = .ok (.bipush 21, 2) := by decide +kernel
theorem dX5_init_15 : decode cX5_init 15 = .ok (.newarray .int, 2) := by decide +kernel
theorem dX5_init_17 : decode cX5_init 17 = .ok (.putfield 13, 3) := by decide +kernel
theorem dX5_init_20 : decode cX5_init 20 = .ok (.aload_n 0, 1) := by decide +kernel
theorem dX5_init_21 : decode cX5_init 21 = .ok (.iconst 5, 1) := by decide +kernel
theorem dX5_init_22 : decode cX5_init 22 = .ok (.newarray .int, 2) := by decide +kernel
theorem dX5_init_24 : decode cX5_init 24 = .ok (.putfield 16, 3) := by decide +kernel
theorem dX5_init_27 : decode cX5_init 27 = .ok (.aload_n 0, 1) := by decide +kernel
theorem dX5_init_28 : decode cX5_init 28 = .ok (.iconst 5, 1) := by decide +kernel
theorem dX5_init_29 : decode cX5_init 29 = .ok (.newarray .int, 2) := by decide +kernel
theorem dX5_init_31 : decode cX5_init 31 = .ok (.putfield 19, 3) := by decide +kernel
theorem dX5_init_34 : decode cX5_init 34 = .ok (.aload_n 0, 1) := by decide +kernel
theorem dX5_init_35 : decode cX5_init 35 = .ok (.iconst 5, 1) := by decide +kernel
theorem dX5_init_36 : decode cX5_init 36 = .ok (.newarray .int, 2) := by decide +kernel
theorem dX5_init_38 : decode cX5_init 38 = .ok (.putfield 22, 3) := by decide +kernel
theorem dX5_init_41 : decode cX5_init 41 = .ok (.aload_n 0, 1) := by decide +kernel
theorem dX5_init_42 : decode cX5_init 42 = .ok (.bipush 24, 2) := by decide +kernel
theorem dX5_init_44 : decode cX5_init 44 = .ok (.newarray .int, 2) := by decide +kernel
theorem dX5_init_46 : decode cX5_init 46 = .ok (.putfield 25, 3) := by decide +kernel
theorem dX5_init_49 : decode cX5_init 49 = .ok (.aload_n 0, 1) := by decide +kernel
theorem dX5_init_50 : decode cX5_init 50 = .ok (.iconst 5, 1) := by decide +kernel
theorem dX5_init_51 : decode cX5_init 51 = .ok (.newarray .int, 2) := by decide +kernel
theorem dX5_init_53 : decode cX5_init 53 = .ok (.putfield 28, 3) := by decide +kernel
theorem dX5_init_56 : decode cX5_init 56 = .ok (.aload_n 0, 1) := by decide +kernel
theorem dX5_init_57 : decode cX5_init 57 = .ok (.bipush 24, 2) := by decide +kernel
theorem dX5_init_59 : decode cX5_init 59 = .ok (.newarray .int, 2) := by decide +kernel
theorem dX5_init_61 : decode cX5_init 61 = .ok (.putfield 31, 3) := by decide +kernel
theorem dX5_init_64 : decode cX5_init 64 = .ok (.aload_n 0, 1) := by decide +kernel
theorem dX5_init_65 : decode cX5_init 65 = .ok (.iconst (-1), 1) := by decide +kernel
theorem dX5_init_66 : decode cX5_init 66 = .ok (.putfield 34, 3) := by decide +kernel
theorem dX5_init_69 : decode cX5_init 69 = .ok (.return_, 1) := by decide +kernel
theorem dX5_in_0 : decode cX5_in 0 = .ok (.lload_n 0, 1) := by decide +kernel
theorem dX5_in_1 : decode cX5_in 1 = .ok (.lload_n 2, 1) := by decide +kernel
theorem dX5_in_2 : decode cX5_in 2 = .ok (.lcmp, 1) := by decide +kernel
theorem dX5_in_3 : decode cX5_in 3 = .ok (.ifCond .lt 14, 3) := by decide +kernel
theorem dX5_in_6 : decode cX5_in 6 = .ok (.lload_n 0, 1) := by decide +kernel
theorem dX5_in_7 : decode cX5_in 7 = .ok (.lload 4, 2) := by decide +kernel
theorem dX5_in_9 : decode cX5_in 9 = .ok (.lcmp, 1) := by decide +kernel
theorem dX5_in_10 : decode cX5_in 10 = .ok (.ifCond .gt 7, 3) := by decide +kernel
theorem dX5_in_13 : decode cX5_in 13 = .ok (.iconst 1, 1) := by decide +kernel
theorem dX5_in_14 : decode cX5_in 14 = .ok (.goto 4, 3) := by decide +kernel
theorem dX5_in_17 : decode cX5_in 17 = .ok (.iconst 0, 1) := by decide +kernel
theorem dX5_in_18 : decode cX5_in 18 = .ok (.ireturn, 1) := by decide +kernel
theorem dX5_copy_0 : decode cX5_copy 0 = .ok (.iconst 0, 1) := by decide +kernel
theorem dX5_copy_1 : decode cX5_copy 1 = .ok (.istore_n 2, 1) := by decide +kernel
theorem dX5_copy_2 : decode cX5_copy 2 = .ok (.iload_n 2, 1) := by decide +kernel
theorem dX5_copy_3 : decode cX5_copy 3 = .ok (.aload_n 0, 1) := by decide +kernel
theorem dX5_copy_4 : decode cX5_copy 4 = .ok (.arraylength, 1) := by decide +kernel
theorem dX5_copy_5 : decode cX5_copy 5 = .ok (.if_icmp .ge 15, 3) := by decide +kernel
theorem dX5_copy_8 : decode cX5_copy 8 = .ok (.aload_n 1, 1) := by decide +kernel
theorem dX5_copy_9 : decode cX5_copy 9 = .ok (.iload_n 2, 1) := by decide +kernel
theorem dX5_copy_10 : decode cX5_copy 10 = .ok (.aload_n 0, 1) := by decide +kernel
theorem dX5_copy_11 : decode cX5_copy 11 = .ok (.iload_n 2, 1) := by decide +kernel
theorem dX5_copy_12 : decode cX5_copy 12 = .ok (.iaload, 1) := by decide +kernel
theorem dX5_copy_13 : decode cX5_copy 13 = .ok (.iastore, 1) := by decide +kernel
theorem dX5_copy_14 : decode cX5_copy 14 = .ok (.iinc 2 1, 3) := by decide +kernel
theorem dX5_copy_17 : decode cX5_copy 17 = .ok (.goto (-15), 3) := by decide +kernel
theorem dX5_copy_20 : decode cX5_copy 20 = .ok (.return_, 1) := by decide +kernel
theorem dX5_common_0 : decode cX5_common 0 = .ok (.iload_n 0, 1) := by decide +kernel
theorem dX5_common_1 : decode cX5_common 1 = .ok (.istore_n 2, 1) := by decide +kernel
theorem dX5_common_2 : decode cX5_common 2 = .ok (.iload_n 1, 1) := by decide +kernel
theorem dX5_common_3 : decode cX5_common 3 = .ok (.istore_n 3, 1) := by decide +kernel
theorem dX5_common_4 : decode cX5_common 4 = .ok (.iload_n 3, 1) := by decide +kernel
theorem dX5_common_5 : decode cX5_common 5 = .ok (.ifCond .le 16, 3) := by decide +kernel
theorem dX5_common_8 : decode cX5_common 8 = .ok (.iload_n 2, 1) := by decide +kernel
theorem dX5_common_9 : decode cX5_common 9 = .ok (.iload_n 3, 1) := by decide +kernel
theorem dX5_common_10 : decode cX5_common 10 = .ok (.irem, 1) := by decide +kernel
theorem dX5_common_11 : decode cX5_common 11 = .ok (.istore 4, 2) := by decide +kernel
theorem dX5_common_13 : decode cX5_common 13 = .ok (.iload_n 3, 1) := by decide +kernel
theorem dX5_common_14 : decode cX5_common 14 = .ok (.istore_n 2, 1) := by decide +kernel
theorem dX5_common_15 : decode cX5_common 15 = .ok (.iload 4, 2) := by decide +kernel
theorem dX5_common_17 : decode cX5_common 17 = .ok (.istore_n 3, 1) := by decide +kernel
theorem dX5_common_18 : decode cX5_common 18 = .ok (.goto (-14), 3) := by decide +kernel
theorem dX5_common_21 : decode cX5_common 21 = .ok (.iload_n 2, 1) := by decide +kernel
theorem dX5_common_22 : decode cX5_common 22 = .ok (.ireturn, 1) := by decide +kernel
theorem dX5_letter_0 : decode cX5_letter 0 = .ok (.iload_n 1, 1) := by decide +kernel
theorem dX5_letter_1 : decode cX5_letter 1 = .ok (.i2l, 1) := by decide +kernel
theorem dX5_letter_2 : decode cX5_letter 2 = .ok (.lconst 1, 1) := by decide +kernel
theorem dX5_letter_3 : decode cX5_letter 3 = .ok (.ldc2_w 38, 3) := by decide +kernel
theorem dX5_letter_6 : decode cX5_letter 6 = .ok (.invokestatic 40, 3) := by decide +kernel
theorem dX5_letter_9 : decode cX5_letter 9 = .ok (.ifCond .ne 6, 3) := by decide +kernel
theorem dX5_letter_12 : decode cX5_letter 12 = .ok (.bipush (-102), 2) := by decide +kernel
theorem dX5_letter_14 : decode cX5_letter 14 = .ok (.ireturn, 1) := by decide +kernel
theorem dX5_letter_15 : decode cX5_letter 15 = .ok (.aload_n 0, 1) := by decide +kernel
theorem dX5_letter_16 : decode cX5_letter 16 = .ok (.getfield 44, 3) := by decide +kernel
theorem dX5_letter_19 : decode cX5_letter 19 = .ok (.bipush 30, 2) := by decide +kernel
theorem dX5_letter_21 : decode cX5_letter 21 = .ok (.if_icmp .ne 6, 3) := by decide +kernel
theorem dX5_letter_24 : decode cX5_letter 24 = .ok (.bipush (-104), 2) := by decide +kernel
theorem dX5_letter_26 : decode cX5_letter 26 = .ok (.ireturn, 1) := by decide +kernel
theorem dX5_letter_27 : decode cX5_letter 27 = .ok (.aload_n 0, 1) := by decide +kernel
theorem dX5_letter_28 : decode cX5_letter 28 = .ok (.getfield 7, 3) := by decide +kernel
theorem dX5_letter_31 : decode cX5_letter 31 = .ok (.aload_n 0, 1) := by decide +kernel
theorem dX5_letter_32 : decode cX5_letter 32 = .ok (.getfield 44, 3) := by decide +kernel
theorem dX5_letter_35 : decode cX5_letter 35 = .ok (.iload_n 1, 1) := by decide +kernel
theorem dX5_letter_36 : decode cX5_letter 36 = .ok (.iastore, 1) := by decide +kernel
theorem dX5_letter_37 : decode cX5_letter 37 = .ok (.aload_n 0, 1) := by decide +kernel
theorem dX5_letter_38 : decode cX5_letter 38 = .ok (.dup, 1) := by decide +kernel
theorem dX5_letter_39 : decode cX5_letter 39 = .ok (.getfield 44, 3) := by decide +kernel
theorem dX5_letter_42 : decode cX5_letter 42 = .ok (.iconst 1, 1) := by decide +kernel
theorem dX5_letter_43 : decode cX5_letter 43 = .ok (.iadd, 1) := by decide +kernel
theorem dX5_letter_44 : decode cX5_letter 44 = .ok (.putfield 44, 3) := by decide +kernel
theorem dX5_letter_47 : decode cX5_letter 47 = .ok (.aload_n 0, 1) := by decide +kernel
theorem dX5_letter_48 : decode cX5_letter 48 = .ok (.getfield 44, 3) := by decide +kernel
theorem dX5_letter_51 : decode cX5_letter 51 = .ok (.ireturn, 1) := by decide +kernel
theorem dX5_blank_0 : decode cX5_blank 0 = .ok (.aload_n 0, 1) := by decide +kernel
theorem dX5_blank_1 : decode cX5_blank 1 = .ok (.getfield 44, 3) := by decide +kernel
theorem dX5_blank_4 : decode cX5_blank 4 = .ok (.istore_n 1, 1) := by decide +kernel
theorem dX5_blank_5 : decode cX5_blank 5 = .ok (.aload_n 0, 1) := by decide +kernel
theorem dX5_blank_6 : decode cX5_blank 6 = .ok (.iconst 0, 1) := by decide +kernel
theorem dX5_blank_7 : decode cX5_blank 7 = .ok (.putfield 44, 3) := by decide +kernel
theorem dX5_blank_10 : decode cX5_blank 10 = .ok (.iload_n 1, 1) := by decide +kernel
theorem dX5_blank_11 : decode cX5_blank 11 = .ok (.ireturn, 1) := by decide +kernel
theorem dX5_kindBy_0 : decode cX5_kindBy 0 = .ok (.iload_n 0, 1) := by decide +kernel
theorem dX5_kindBy_1 : decode cX5_kindBy 1 = .ok (.bipush 112, 2) := by decide +kernel
theorem dX5_kindBy_3 : decode cX5_kindBy 3 = .ok (.if_icmp .ne 7, 3) := by decide +kernel
theorem dX5_kindBy_6 : decode cX5_kindBy 6 = .ok (.iconst 0, 1) := by decide +kernel
theorem dX5_kindBy_7 : decode cX5_kindBy 7 = .ok (.goto 44, 3) := by decide +kernel
theorem dX5_kindBy_10 : decode cX5_kindBy 10 = .ok (.iload_n 0, 1) := by decide +kernel
theorem dX5_kindBy_11 : decode cX5_kindBy 11 = .ok (.bipush 102, 2) := by decide +kernel
theorem dX5_kindBy_13 : decode cX5_kindBy 13 = .ok (.if_icmp .ne 7, 3) := by decide +kernel
theorem dX5_kindBy_16 : decode cX5_kindBy 16 = .ok (.iconst 1, 1) := by decide +kernel
theorem dX5_kindBy_17 : decode cX5_kindBy 17 = .ok (.goto 34, 3) := by decide +kernel
theorem dX5_kindBy_20 : decode cX5_kindBy 20 = .ok (.iload_n 0, 1) := by decide +kernel
theorem dX5_kindBy_21 : decode cX5_kindBy 21 = .ok (.bipush 116, 2) := by decide +kernel
theorem dX5_kindBy_23 : decode cX5_kindBy 23 = .ok (.if_icmp .ne 7, 3) := by decide +kernel
theorem dX5_kindBy_26 : decode cX5_kindBy 26 = .ok (.iconst 2, 1) := by decide +kernel
theorem dX5_kindBy_27 : decode cX5_kindBy 27 = .ok (.goto 24, 3) := by decide +kernel
theorem dX5_kindBy_30 : decode cX5_kindBy 30 = .ok (.iload_n 0, 1) := by decide +kernel
theorem dX5_kindBy_31 : decode cX5_kindBy 31 = .ok (.bipush 104, 2) := by decide +kernel
theorem dX5_kindBy_33 : decode cX5_kindBy 33 = .ok (.if_icmp .ne 7, 3) := by decide +kernel
theorem dX5_kindBy_36 : decode cX5_kindBy 36 = .ok (.iconst 3, 1) := by decide +kernel
theorem dX5_kindBy_37 : decode cX5_kindBy 37 = .ok (.goto 14, 3) := by decide +kernel
theorem dX5_kindBy_40 : decode cX5_kindBy 40 = .ok (.iload_n 0, 1) := by decide +kernel
theorem dX5_kindBy_41 : decode cX5_kindBy 41 = .ok (.bipush 114, 2) := by decide +kernel
theorem dX5_kindBy_43 : decode cX5_kindBy 43 = .ok (.if_icmp .ne 7, 3) := by decide +kernel
theorem dX5_kindBy_46 : decode cX5_kindBy 46 = .ok (.iconst 4, 1) := by decide +kernel
theorem dX5_kindBy_47 : decode cX5_kindBy 47 = .ok (.goto 4, 3) := by decide +kernel
theorem dX5_kindBy_50 : decode cX5_kindBy 50 = .ok (.iconst (-1), 1) := by decide +kernel
theorem dX5_kindBy_51 : decode cX5_kindBy 51 = .ok (.ireturn, 1) := by decide +kernel
theorem dX5_isGood_0 : decode cX5_isGood 0 = .ok (.iload_n 0, 1) := by decide +kernel
theorem dX5_isGood_1 : decode cX5_isGood 1 = .ok (.iconst 4, 1) := by decide +kernel
theorem dX5_isGood_2 : decode cX5_isGood 2 = .ok (.irem, 1) := by decide +kernel
theorem dX5_isGood_3 : decode cX5_isGood 3 = .ok (.tableswitch 57 0 2 #[25, 45, 45], 25) := by decide +kernel
theorem dX5_isGood_28 : decode cX5_isGood 28 = .ok (.iload_n 0, 1) := by decide +kernel
theorem dX5_isGood_29 : decode cX5_isGood 29 = .ok (.bipush 28, 2) := by decide +kernel
theorem dX5_isGood_31 : decode cX5_isGood 31 = .ok (.if_icmp .ge 15, 3) := by decide +kernel
theorem dX5_isGood_34 : decode cX5_isGood 34 = .ok (.iload_n 1, 1) := by decide +kernel
theorem dX5_isGood_35 : decode cX5_isGood 35 = .ok (.invokestatic 47, 3) := by decide +kernel
theorem dX5_isGood_38 : decode cX5_isGood 38 = .ok (.iconst (-1), 1) := by decide +kernel
theorem dX5_isGood_39 : decode cX5_isGood 39 = .ok (.if_icmp .eq 7, 3) := by decide +kernel
theorem dX5_isGood_42 : decode cX5_isGood 42 = .ok (.iconst 1, 1) := by decide +kernel
theorem dX5_isGood_43 : decode cX5_isGood 43 = .ok (.goto 4, 3) := by decide +kernel
theorem dX5_isGood_46 : decode cX5_isGood 46 = .ok (.iconst 0, 1) := by decide +kernel
theorem dX5_isGood_47 : decode cX5_isGood 47 = .ok (.ireturn, 1) := by decide +kernel
theorem dX5_isGood_48 : decode cX5_isGood 48 = .ok (.iload_n 1, 1) := by decide +kernel
theorem dX5_isGood_49 : decode cX5_isGood 49 = .ok (.i2l, 1) := by decide +kernel
theorem dX5_isGood_50 : decode cX5_isGood 50 = .ok (.ldc2_w 51, 3) := by decide +kernel
theorem dX5_isGood_53 : decode cX5_isGood 53 = .ok (.ldc2_w 53, 3) := by decide +kernel
theorem dX5_isGood_56 : decode cX5_isGood 56 = .ok (.invokestatic 40, 3) := by decide +kernel
theorem dX5_isGood_59 : decode cX5_isGood 59 = .ok (.ireturn, 1) := by decide +kernel
theorem dX5_isGood_60 : decode cX5_isGood 60 = .ok (.iload_n 1, 1) := by decide +kernel
theorem dX5_isGood_61 : decode cX5_isGood 61 = .ok (.bipush 44, 2) := by decide +kernel
theorem dX5_isGood_63 : decode cX5_isGood 63 = .ok (.if_icmp .ne 13, 3) := by decide +kernel
theorem dX5_isGood_66 : decode cX5_isGood 66 = .ok (.iload_n 0, 1) := by decide +kernel
theorem dX5_isGood_67 : decode cX5_isGood 67 = .ok (.bipush 27, 2) := by decide +kernel
theorem dX5_isGood_69 : decode cX5_isGood 69 = .ok (.if_icmp .ge 7, 3) := by decide +kernel
theorem dX5_isGood_72 : decode cX5_isGood 72 = .ok (.iconst 1, 1) := by decide +kernel
theorem dX5_isGood_73 : decode cX5_isGood 73 = .ok (.goto 4, 3) := by decide +kernel
theorem dX5_isGood_76 : decode cX5_isGood 76 = .ok (.iconst 0, 1) := by decide +kernel
theorem dX5_isGood_77 : decode cX5_isGood 77 = .ok (.ireturn, 1) := by decide +kernel
theorem dX5_faultOf_0 : decode cX5_faultOf 0 = .ok (.iconst 0, 1) := by decide +kernel
theorem dX5_faultOf_1 : decode cX5_faultOf 1 = .ok (.istore_n 1, 1) := by decide +kernel
theorem dX5_faultOf_2 : decode cX5_faultOf 2 = .ok (.iload_n 1, 1) := by decide +kernel
theorem dX5_faultOf_3 : decode cX5_faultOf 3 = .ok (.aload_n 0, 1) := by decide +kernel
theorem dX5_faultOf_4 : decode cX5_faultOf 4 = .ok (.getfield 44, 3) := by decide +kernel
theorem dX5_faultOf_7 : decode cX5_faultOf 7 = .ok (.if_icmp .ge 22, 3) := by decide +kernel
theorem dX5_faultOf_10 : decode cX5_faultOf 10 = .ok (.iload_n 1, 1) := by decide +kernel
theorem dX5_faultOf_11 : decode cX5_faultOf 11 = .ok (.aload_n 0, 1) := by decide +kernel
theorem dX5_faultOf_12 : decode cX5_faultOf 12 = .ok (.getfield 7, 3) := by decide +kernel
theorem dX5_faultOf_15 : decode cX5_faultOf 15 = .ok (.iload_n 1, 1) := by decide +kernel
theorem dX5_faultOf_16 : decode cX5_faultOf 16 = .ok (.iaload, 1) := by decide +kernel
theorem dX5_faultOf_17 : decode cX5_faultOf 17 = .ok (.invokestatic 55, 3) := by decide +kernel
theorem dX5_faultOf_20 : decode cX5_faultOf 20 = .ok (.ifCond .eq 9, 3) := by decide +kernel
theorem dX5_faultOf_23 : decode cX5_faultOf 23 = .ok (.iinc 1 1, 3) := by decide +kernel
theorem dX5_faultOf_26 : decode cX5_faultOf 26 = .ok (.goto (-24), 3) := by decide +kernel
theorem dX5_faultOf_29 : decode cX5_faultOf 29 = .ok (.iload_n 1, 1) := by decide +kernel
theorem dX5_faultOf_30 : decode cX5_faultOf 30 = .ok (.ireturn, 1) := by decide +kernel
theorem dX5_fault_0 : decode cX5_fault 0 = .ok (.aload_n 0, 1) := by decide +kernel
theorem dX5_fault_1 : decode cX5_fault 1 = .ok (.invokevirtual 59, 3) := by decide +kernel
theorem dX5_fault_4 : decode cX5_fault 4 = .ok (.ireturn, 1) := by decide +kernel
theorem dX5_gym_0 : decode cX5_gym 0 = .ok (.aload_n 0, 1) := by decide +kernel
theorem dX5_gym_1 : decode cX5_gym 1 = .ok (.getfield 44, 3) := by decide +kernel
theorem dX5_gym_4 : decode cX5_gym 4 = .ok (.bipush 7, 2) := by decide +kernel
theorem dX5_gym_6 : decode cX5_gym 6 = .ok (.if_icmp .lt 24, 3) := by decide +kernel
theorem dX5_gym_9 : decode cX5_gym 9 = .ok (.aload_n 0, 1) := by decide +kernel
theorem dX5_gym_10 : decode cX5_gym 10 = .ok (.getfield 44, 3) := by decide +kernel
theorem dX5_gym_13 : decode cX5_gym 13 = .ok (.iconst 4, 1) := by decide +kernel
theorem dX5_gym_14 : decode cX5_gym 14 = .ok (.irem, 1) := by decide +kernel
theorem dX5_gym_15 : decode cX5_gym 15 = .ok (.iconst 3, 1) := by decide +kernel
theorem dX5_gym_16 : decode cX5_gym 16 = .ok (.if_icmp .ne 14, 3) := by decide +kernel
theorem dX5_gym_19 : decode cX5_gym 19 = .ok (.aload_n 0, 1) := by decide +kernel
theorem dX5_gym_20 : decode cX5_gym 20 = .ok (.invokevirtual 59, 3) := by decide +kernel
theorem dX5_gym_23 : decode cX5_gym 23 = .ok (.aload_n 0, 1) := by decide +kernel
theorem dX5_gym_24 : decode cX5_gym 24 = .ok (.getfield 44, 3) := by decide +kernel
theorem dX5_gym_27 : decode cX5_gym 27 = .ok (.if_icmp .ge 6, 3) := by decide +kernel
theorem dX5_gym_30 : decode cX5_gym 30 = .ok (.bipush (-103), 2) := by decide +kernel
theorem dX5_gym_32 : decode cX5_gym 32 = .ok (.ireturn, 1) := by decide +kernel
theorem dX5_gym_33 : decode cX5_gym 33 = .ok (.aload_n 0, 1) := by decide +kernel
theorem dX5_gym_34 : decode cX5_gym 34 = .ok (.aload_n 0, 1) := by decide +kernel
theorem dX5_gym_35 : decode cX5_gym 35 = .ok (.getfield 44, 3) := by decide +kernel
theorem dX5_gym_38 : decode cX5_gym 38 = .ok (.iconst 1, 1) := by decide +kernel
theorem dX5_gym_39 : decode cX5_gym 39 = .ok (.iadd, 1) := by decide +kernel
theorem dX5_gym_40 : decode cX5_gym 40 = .ok (.iconst 4, 1) := by decide +kernel
theorem dX5_gym_41 : decode cX5_gym 41 = .ok (.idiv, 1) := by decide +kernel
theorem dX5_gym_42 : decode cX5_gym 42 = .ok (.putfield 63, 3) := by decide +kernel
theorem dX5_gym_45 : decode cX5_gym 45 = .ok (.iconst 0, 1) := by decide +kernel
theorem dX5_gym_46 : decode cX5_gym 46 = .ok (.istore_n 1, 1) := by decide +kernel
theorem dX5_gym_47 : decode cX5_gym 47 = .ok (.iload_n 1, 1) := by decide +kernel
theorem dX5_gym_48 : decode cX5_gym 48 = .ok (.aload_n 0, 1) := by decide +kernel
theorem dX5_gym_49 : decode cX5_gym 49 = .ok (.getfield 63, 3) := by decide +kernel
theorem dX5_gym_52 : decode cX5_gym 52 = .ok (.if_icmp .ge 74, 3) := by decide +kernel
theorem dX5_gym_55 : decode cX5_gym 55 = .ok (.aload_n 0, 1) := by decide +kernel
theorem dX5_gym_56 : decode cX5_gym 56 = .ok (.getfield 13, 3) := by decide +kernel
theorem dX5_gym_59 : decode cX5_gym 59 = .ok (.iconst 3, 1) := by decide +kernel
theorem dX5_gym_60 : decode cX5_gym 60 = .ok (.iload_n 1, 1) := by decide +kernel
theorem dX5_gym_61 : decode cX5_gym 61 = .ok (.imul, 1) := by decide +kernel
theorem dX5_gym_62 : decode cX5_gym 62 = .ok (.aload_n 0, 1) := by decide +kernel
theorem dX5_gym_63 : decode cX5_gym 63 = .ok (.getfield 7, 3) := by decide +kernel
theorem dX5_gym_66 : decode cX5_gym 66 = .ok (.iconst 4, 1) := by decide +kernel
theorem dX5_gym_67 : decode cX5_gym 67 = .ok (.iload_n 1, 1) := by decide +kernel
theorem dX5_gym_68 : decode cX5_gym 68 = .ok (.imul, 1) := by decide +kernel
theorem dX5_gym_69 : decode cX5_gym 69 = .ok (.iaload, 1) := by decide +kernel
theorem dX5_gym_70 : decode cX5_gym 70 = .ok (.invokestatic 47, 3) := by decide +kernel
theorem dX5_gym_73 : decode cX5_gym 73 = .ok (.iastore, 1) := by decide +kernel
theorem dX5_gym_74 : decode cX5_gym 74 = .ok (.aload_n 0, 1) := by decide +kernel
theorem dX5_gym_75 : decode cX5_gym 75 = .ok (.getfield 13, 3) := by decide +kernel
theorem dX5_gym_78 : decode cX5_gym 78 = .ok (.iconst 3, 1) := by decide +kernel
theorem dX5_gym_79 : decode cX5_gym 79 = .ok (.iload_n 1, 1) := by decide +kernel
theorem dX5_gym_80 : decode cX5_gym 80 = .ok (.imul, 1) := by decide +kernel
theorem dX5_gym_81 : decode cX5_gym 81 = .ok (.iconst 1, 1) := by decide +kernel
theorem dX5_gym_82 : decode cX5_gym 82 = .ok (.iadd, 1) := by decide +kernel
theorem dX5_gym_83 : decode cX5_gym 83 = .ok (.aload_n 0, 1) := by decide +kernel
theorem dX5_gym_84 : decode cX5_gym 84 = .ok (.getfield 7, 3) := by decide +kernel
theorem dX5_gym_87 : decode cX5_gym 87 = .ok (.iconst 4, 1) := by decide +kernel
theorem dX5_gym_88 : decode cX5_gym 88 = .ok (.iload_n 1, 1) := by decide +kernel
theorem dX5_gym_89 : decode cX5_gym 89 = .ok (.imul, 1) := by decide +kernel
theorem dX5_gym_90 : decode cX5_gym 90 = .ok (.iconst 1, 1) := by decide +kernel
theorem dX5_gym_91 : decode cX5_gym 91 = .ok (.iadd, 1) := by decide +kernel
theorem dX5_gym_92 : decode cX5_gym 92 = .ok (.iaload, 1) := by decide +kernel
theorem dX5_gym_93 : decode cX5_gym 93 = .ok (.bipush 48, 2) := by decide +kernel
theorem dX5_gym_95 : decode cX5_gym 95 = .ok (.isub, 1) := by decide +kernel
theorem dX5_gym_96 : decode cX5_gym 96 = .ok (.iastore, 1) := by decide +kernel
theorem dX5_gym_97 : decode cX5_gym 97 = .ok (.aload_n 0, 1) := by decide +kernel
theorem dX5_gym_98 : decode cX5_gym 98 = .ok (.getfield 13, 3) := by decide +kernel
theorem dX5_gym_101 : decode cX5_gym 101 = .ok (.iconst 3, 1) := by decide +kernel
theorem dX5_gym_102 : decode cX5_gym 102 = .ok (.iload_n 1, 1) := by decide +kernel
theorem dX5_gym_103 : decode cX5_gym 103 = .ok (.imul, 1) := by decide +kernel
theorem dX5_gym_104 : decode cX5_gym 104 = .ok (.iconst 2, 1) := by decide +kernel
theorem dX5_gym_105 : decode cX5_gym 105 = .ok (.iadd, 1) := by decide +kernel
theorem dX5_gym_106 : decode cX5_gym 106 = .ok (.aload_n 0, 1) := by decide +kernel
theorem dX5_gym_107 : decode cX5_gym 107 = .ok (.getfield 7, 3) := by decide +kernel
theorem dX5_gym_110 : decode cX5_gym 110 = .ok (.iconst 4, 1) := by decide +kernel
theorem dX5_gym_111 : decode cX5_gym 111 = .ok (.iload_n 1, 1) := by decide +kernel
theorem dX5_gym_112 : decode cX5_gym 112 = .ok (.imul, 1) := by decide +kernel
theorem dX5_gym_113 : decode cX5_gym 113 = .ok (.iconst 2, 1) := by decide +kernel
theorem dX5_gym_114 : decode cX5_gym 114 = .ok (.iadd, 1) := by decide +kernel
theorem dX5_gym_115 : decode cX5_gym 115 = .ok (.iaload, 1) := by decide +kernel
theorem dX5_gym_116 : decode cX5_gym 116 = .ok (.bipush 48, 2) := by decide +kernel
theorem dX5_gym_118 : decode cX5_gym 118 = .ok (.isub, 1) := by decide +kernel
theorem dX5_gym_119 : decode cX5_gym 119 = .ok (.iastore, 1) := by decide +kernel
theorem dX5_gym_120 : decode cX5_gym 120 = .ok (.iinc 1 1, 3) := by decide +kernel
theorem dX5_gym_123 : decode cX5_gym 123 = .ok (.goto (-76), 3) := by decide +kernel
theorem dX5_gym_126 : decode cX5_gym 126 = .ok (.aload_n 0, 1) := by decide +kernel
theorem dX5_gym_127 : decode cX5_gym 127 = .ok (.iconst 0, 1) := by decide +kernel
theorem dX5_gym_128 : decode cX5_gym 128 = .ok (.putfield 66, 3) := by decide +kernel
theorem dX5_gym_131 : decode cX5_gym 131 = .ok (.aload_n 0, 1) := by decide +kernel
theorem dX5_gym_132 : decode cX5_gym 132 = .ok (.iconst 0, 1) := by decide +kernel
theorem dX5_gym_133 : decode cX5_gym 133 = .ok (.putfield 69, 3) := by decide +kernel
theorem dX5_gym_136 : decode cX5_gym 136 = .ok (.aload_n 0, 1) := by decide +kernel
theorem dX5_gym_137 : decode cX5_gym 137 = .ok (.iconst 0, 1) := by decide +kernel
theorem dX5_gym_138 : decode cX5_gym 138 = .ok (.putfield 72, 3) := by decide +kernel
theorem dX5_gym_141 : decode cX5_gym 141 = .ok (.aload_n 0, 1) := by decide +kernel
theorem dX5_gym_142 : decode cX5_gym 142 = .ok (.dup, 1) := by decide +kernel
theorem dX5_gym_143 : decode cX5_gym 143 = .ok (.getfield 75, 3) := by decide +kernel
theorem dX5_gym_146 : decode cX5_gym 146 = .ok (.iconst 1, 1) := by decide +kernel
theorem dX5_gym_147 : decode cX5_gym 147 = .ok (.iadd, 1) := by decide +kernel
theorem dX5_gym_148 : decode cX5_gym 148 = .ok (.putfield 75, 3) := by decide +kernel
theorem dX5_gym_151 : decode cX5_gym 151 = .ok (.aload_n 0, 1) := by decide +kernel
theorem dX5_gym_152 : decode cX5_gym 152 = .ok (.iconst 0, 1) := by decide +kernel
theorem dX5_gym_153 : decode cX5_gym 153 = .ok (.putfield 44, 3) := by decide +kernel
theorem dX5_gym_156 : decode cX5_gym 156 = .ok (.aload_n 0, 1) := by decide +kernel
theorem dX5_gym_157 : decode cX5_gym 157 = .ok (.getfield 63, 3) := by decide +kernel
theorem dX5_gym_160 : decode cX5_gym 160 = .ok (.ireturn, 1) := by decide +kernel
theorem dX5_lacks_0 : decode cX5_lacks 0 = .ok (.aload_n 0, 1) := by decide +kernel
theorem dX5_lacks_1 : decode cX5_lacks 1 = .ok (.getfield 63, 3) := by decide +kernel
theorem dX5_lacks_4 : decode cX5_lacks 4 = .ok (.ifCond .ne 7, 3) := by decide +kernel
theorem dX5_lacks_7 : decode cX5_lacks 7 = .ok (.iconst 1, 1) := by decide +kernel
theorem dX5_lacks_8 : decode cX5_lacks 8 = .ok (.goto 4, 3) := by decide +kernel
theorem dX5_lacks_11 : decode cX5_lacks 11 = .ok (.iconst 0, 1) := by decide +kernel
theorem dX5_lacks_12 : decode cX5_lacks 12 = .ok (.ireturn, 1) := by decide +kernel
theorem dX5_isPiece_0 : decode cX5_isPiece 0 = .ok (.iload_n 1, 1) := by decide +kernel
theorem dX5_isPiece_1 : decode cX5_isPiece 1 = .ok (.i2l, 1) := by decide +kernel
theorem dX5_isPiece_2 : decode cX5_isPiece 2 = .ok (.lconst 0, 1) := by decide +kernel
theorem dX5_isPiece_3 : decode cX5_isPiece 3 = .ok (.aload_n 0, 1) := by decide +kernel
theorem dX5_isPiece_4 : decode cX5_isPiece 4 = .ok (.getfield 63, 3) := by decide +kernel
theorem dX5_isPiece_7 : decode cX5_isPiece 7 = .ok (.iconst 1, 1) := by decide +kernel
theorem dX5_isPiece_8 : decode cX5_isPiece 8 = .ok (.isub, 1) := by decide +kernel
theorem dX5_isPiece_9 : decode cX5_isPiece 9 = .ok (.i2l, 1) := by decide +kernel
theorem dX5_isPiece_10 : decode cX5_isPiece 10 = .ok (.invokestatic 40, 3) := by decide +kernel
theorem dX5_isPiece_13 : decode cX5_isPiece 13 = .ok (.ireturn, 1) := by decide +kernel
theorem dX5_isPlace_0 : decode cX5_isPlace 0 = .ok (.iload_n 1, 1) := by decide +kernel
theorem dX5_isPlace_1 : decode cX5_isPlace 1 = .ok (.i2l, 1) := by decide +kernel
theorem dX5_isPlace_2 : decode cX5_isPlace 2 = .ok (.lconst 0, 1) := by decide +kernel
theorem dX5_isPlace_3 : decode cX5_isPlace 3 = .ok (.aload_n 0, 1) := by decide +kernel
theorem dX5_isPlace_4 : decode cX5_isPlace 4 = .ok (.getfield 66, 3) := by decide +kernel
theorem dX5_isPlace_7 : decode cX5_isPlace 7 = .ok (.iconst 1, 1) := by decide +kernel
theorem dX5_isPlace_8 : decode cX5_isPlace 8 = .ok (.isub, 1) := by decide +kernel
theorem dX5_isPlace_9 : decode cX5_isPlace 9 = .ok (.i2l, 1) := by decide +kernel
theorem dX5_isPlace_10 : decode cX5_isPlace 10 = .ok (.invokestatic 40, 3) := by decide +kernel
theorem dX5_isPlace_13 : decode cX5_isPlace 13 = .ok (.ireturn, 1) := by decide +kernel
theorem dX5_tenthsBy_0 : decode cX5_tenthsBy 0 = .ok (.iload_n 2, 1) := by decide +kernel
theorem dX5_tenthsBy_1 : decode cX5_tenthsBy 1 = .ok (.iconst 2, 1) := by decide +kernel
theorem dX5_tenthsBy_2 : decode cX5_tenthsBy 2 = .ok (.if_icmp .le 14, 3) := by decide +kernel
theorem dX5_tenthsBy_5 : decode cX5_tenthsBy 5 = .ok (.iload_n 0, 1) := by decide +kernel
theorem dX5_tenthsBy_6 : decode cX5_tenthsBy 6 = .ok (.iconst 3, 1) := by decide +kernel
theorem dX5_tenthsBy_7 : decode cX5_tenthsBy 7 = .ok (.if_icmp .eq 9, 3) := by decide +kernel
theorem dX5_tenthsBy_10 : decode cX5_tenthsBy 10 = .ok (.iload_n 2, 1) := by decide +kernel
theorem dX5_tenthsBy_11 : decode cX5_tenthsBy 11 = .ok (.iconst 2, 1) := by decide +kernel
theorem dX5_tenthsBy_12 : decode cX5_tenthsBy 12 = .ok (.isub, 1) := by decide +kernel
theorem dX5_tenthsBy_13 : decode cX5_tenthsBy 13 = .ok (.goto 4, 3) := by decide +kernel
theorem dX5_tenthsBy_16 : decode cX5_tenthsBy 16 = .ok (.iconst 0, 1) := by decide +kernel
theorem dX5_tenthsBy_17 : decode cX5_tenthsBy 17 = .ok (.istore_n 3, 1) := by decide +kernel
theorem dX5_tenthsBy_18 : decode cX5_tenthsBy 18 = .ok (.iload_n 1, 1) := by decide +kernel
theorem dX5_tenthsBy_19 : decode cX5_tenthsBy 19 = .ok (.iload_n 3, 1) := by decide +kernel
theorem dX5_tenthsBy_20 : decode cX5_tenthsBy 20 = .ok (.if_icmp .le 9, 3) := by decide +kernel
theorem dX5_tenthsBy_23 : decode cX5_tenthsBy 23 = .ok (.iload_n 1, 1) := by decide +kernel
theorem dX5_tenthsBy_24 : decode cX5_tenthsBy 24 = .ok (.iload_n 3, 1) := by decide +kernel
theorem dX5_tenthsBy_25 : decode cX5_tenthsBy 25 = .ok (.isub, 1) := by decide +kernel
theorem dX5_tenthsBy_26 : decode cX5_tenthsBy 26 = .ok (.goto 4, 3) := by decide +kernel
theorem dX5_tenthsBy_29 : decode cX5_tenthsBy 29 = .ok (.iconst 0, 1) := by decide +kernel
theorem dX5_tenthsBy_30 : decode cX5_tenthsBy 30 = .ok (.ireturn, 1) := by decide +kernel
theorem dX5_tenthsOf_0 : decode cX5_tenthsOf 0 = .ok (.aload_n 0, 1) := by decide +kernel
theorem dX5_tenthsOf_1 : decode cX5_tenthsOf 1 = .ok (.getfield 13, 3) := by decide +kernel
theorem dX5_tenthsOf_4 : decode cX5_tenthsOf 4 = .ok (.iconst 3, 1) := by decide +kernel
theorem dX5_tenthsOf_5 : decode cX5_tenthsOf 5 = .ok (.iload_n 1, 1) := by decide +kernel
theorem dX5_tenthsOf_6 : decode cX5_tenthsOf 6 = .ok (.imul, 1) := by decide +kernel
theorem dX5_tenthsOf_7 : decode cX5_tenthsOf 7 = .ok (.iaload, 1) := by decide +kernel
theorem dX5_tenthsOf_8 : decode cX5_tenthsOf 8 = .ok (.aload_n 0, 1) := by decide +kernel
theorem dX5_tenthsOf_9 : decode cX5_tenthsOf 9 = .ok (.getfield 13, 3) := by decide +kernel
theorem dX5_tenthsOf_12 : decode cX5_tenthsOf 12 = .ok (.iconst 3, 1) := by decide +kernel
theorem dX5_tenthsOf_13 : decode cX5_tenthsOf 13 = .ok (.iload_n 1, 1) := by decide +kernel
theorem dX5_tenthsOf_14 : decode cX5_tenthsOf 14 = .ok (.imul, 1) := by decide +kernel
theorem dX5_tenthsOf_15 : decode cX5_tenthsOf 15 = .ok (.iconst 2, 1) := by decide +kernel
theorem dX5_tenthsOf_16 : decode cX5_tenthsOf 16 = .ok (.iadd, 1) := by decide +kernel
theorem dX5_tenthsOf_17 : decode cX5_tenthsOf 17 = .ok (.iaload, 1) := by decide +kernel
theorem dX5_tenthsOf_18 : decode cX5_tenthsOf 18 = .ok (.iload_n 2, 1) := by decide +kernel
theorem dX5_tenthsOf_19 : decode cX5_tenthsOf 19 = .ok (.invokestatic 78, 3) := by decide +kernel
theorem dX5_tenthsOf_22 : decode cX5_tenthsOf 22 = .ok (.ireturn, 1) := by decide +kernel
theorem dX5_placeOf_0 : decode cX5_placeOf 0 = .ok (.iconst (-1), 1) := by decide +kernel
theorem dX5_placeOf_1 : decode cX5_placeOf 1 = .ok (.istore_n 2, 1) := by decide +kernel
theorem dX5_placeOf_2 : decode cX5_placeOf 2 = .ok (.iconst 0, 1) := by decide +kernel
theorem dX5_placeOf_3 : decode cX5_placeOf 3 = .ok (.istore_n 3, 1) := by decide +kernel
theorem dX5_placeOf_4 : decode cX5_placeOf 4 = .ok (.iload_n 3, 1) := by decide +kernel
theorem dX5_placeOf_5 : decode cX5_placeOf 5 = .ok (.aload_n 0, 1) := by decide +kernel
theorem dX5_placeOf_6 : decode cX5_placeOf 6 = .ok (.getfield 66, 3) := by decide +kernel
theorem dX5_placeOf_9 : decode cX5_placeOf 9 = .ok (.if_icmp .ge 25, 3) := by decide +kernel
theorem dX5_placeOf_12 : decode cX5_placeOf 12 = .ok (.aload_n 0, 1) := by decide +kernel
theorem dX5_placeOf_13 : decode cX5_placeOf 13 = .ok (.getfield 16, 3) := by decide +kernel
theorem dX5_placeOf_16 : decode cX5_placeOf 16 = .ok (.iload_n 3, 1) := by decide +kernel
theorem dX5_placeOf_17 : decode cX5_placeOf 17 = .ok (.iaload, 1) := by decide +kernel
theorem dX5_placeOf_18 : decode cX5_placeOf 18 = .ok (.iload_n 1, 1) := by decide +kernel
theorem dX5_placeOf_19 : decode cX5_placeOf 19 = .ok (.if_icmp .ne 7, 3) := by decide +kernel
theorem dX5_placeOf_22 : decode cX5_placeOf 22 = .ok (.iload_n 3, 1) := by decide +kernel
theorem dX5_placeOf_23 : decode cX5_placeOf 23 = .ok (.goto 4, 3) := by decide +kernel
theorem dX5_placeOf_26 : decode cX5_placeOf 26 = .ok (.iload_n 2, 1) := by decide +kernel
theorem dX5_placeOf_27 : decode cX5_placeOf 27 = .ok (.istore_n 2, 1) := by decide +kernel
theorem dX5_placeOf_28 : decode cX5_placeOf 28 = .ok (.iinc 3 1, 3) := by decide +kernel
theorem dX5_placeOf_31 : decode cX5_placeOf 31 = .ok (.goto (-27), 3) := by decide +kernel
theorem dX5_placeOf_34 : decode cX5_placeOf 34 = .ok (.iload_n 2, 1) := by decide +kernel
theorem dX5_placeOf_35 : decode cX5_placeOf 35 = .ok (.ireturn, 1) := by decide +kernel
theorem dX5_tell_0 : decode cX5_tell 0 = .ok (.iload_n 2, 1) := by decide +kernel
theorem dX5_tell_1 : decode cX5_tell 1 = .ok (.tableswitch 96 0 6 #[43, 43, 43, 54, 60, 84, 90], 43) := by decide +kernel
theorem dX5_tell_44 : decode cX5_tell 44 = .ok (.aload_n 0, 1) := by decide +kernel
theorem dX5_tell_45 : decode cX5_tell 45 = .ok (.getfield 13, 3) := by decide +kernel
theorem dX5_tell_48 : decode cX5_tell 48 = .ok (.iconst 3, 1) := by decide +kernel
theorem dX5_tell_49 : decode cX5_tell 49 = .ok (.iload_n 1, 1) := by decide +kernel
theorem dX5_tell_50 : decode cX5_tell 50 = .ok (.imul, 1) := by decide +kernel
theorem dX5_tell_51 : decode cX5_tell 51 = .ok (.iload_n 2, 1) := by decide +kernel
theorem dX5_tell_52 : decode cX5_tell 52 = .ok (.iadd, 1) := by decide +kernel
theorem dX5_tell_53 : decode cX5_tell 53 = .ok (.iaload, 1) := by decide +kernel
theorem dX5_tell_54 : decode cX5_tell 54 = .ok (.ireturn, 1) := by decide +kernel
theorem dX5_tell_55 : decode cX5_tell 55 = .ok (.aload_n 0, 1) := by decide +kernel
theorem dX5_tell_56 : decode cX5_tell 56 = .ok (.iload_n 1, 1) := by decide +kernel
theorem dX5_tell_57 : decode cX5_tell 57 = .ok (.invokevirtual 82, 3) := by decide +kernel
theorem dX5_tell_60 : decode cX5_tell 60 = .ok (.ireturn, 1) := by decide +kernel
theorem dX5_tell_61 : decode cX5_tell 61 = .ok (.aload_n 0, 1) := by decide +kernel
theorem dX5_tell_62 : decode cX5_tell 62 = .ok (.iload_n 1, 1) := by decide +kernel
theorem dX5_tell_63 : decode cX5_tell 63 = .ok (.invokevirtual 82, 3) := by decide +kernel
theorem dX5_tell_66 : decode cX5_tell 66 = .ok (.iconst (-1), 1) := by decide +kernel
theorem dX5_tell_67 : decode cX5_tell 67 = .ok (.if_icmp .ne 7, 3) := by decide +kernel
theorem dX5_tell_70 : decode cX5_tell 70 = .ok (.iconst (-1), 1) := by decide +kernel
theorem dX5_tell_71 : decode cX5_tell 71 = .ok (.goto 13, 3) := by decide +kernel
theorem dX5_tell_74 : decode cX5_tell 74 = .ok (.aload_n 0, 1) := by decide +kernel
theorem dX5_tell_75 : decode cX5_tell 75 = .ok (.iload_n 1, 1) := by decide +kernel
theorem dX5_tell_76 : decode cX5_tell 76 = .ok (.aload_n 0, 1) := by decide +kernel
theorem dX5_tell_77 : decode cX5_tell 77 = .ok (.iload_n 1, 1) := by decide +kernel
theorem dX5_tell_78 : decode cX5_tell 78 = .ok (.invokevirtual 82, 3) := by decide +kernel
theorem dX5_tell_81 : decode cX5_tell 81 = .ok (.invokevirtual 85, 3) := by decide +kernel
theorem dX5_tell_84 : decode cX5_tell 84 = .ok (.ireturn, 1) := by decide +kernel
theorem dX5_tell_85 : decode cX5_tell 85 = .ok (.aload_n 0, 1) := by decide +kernel
theorem dX5_tell_86 : decode cX5_tell 86 = .ok (.iload_n 1, 1) := by decide +kernel
theorem dX5_tell_87 : decode cX5_tell 87 = .ok (.invokevirtual 89, 3) := by decide +kernel
theorem dX5_tell_90 : decode cX5_tell 90 = .ok (.ireturn, 1) := by decide +kernel
theorem dX5_tell_91 : decode cX5_tell 91 = .ok (.aload_n 0, 1) := by decide +kernel
theorem dX5_tell_92 : decode cX5_tell 92 = .ok (.iload_n 1, 1) := by decide +kernel
theorem dX5_tell_93 : decode cX5_tell 93 = .ok (.invokevirtual 92, 3) := by decide +kernel
theorem dX5_tell_96 : decode cX5_tell 96 = .ok (.ireturn, 1) := by decide +kernel
theorem dX5_tell_97 : decode cX5_tell 97 = .ok (.bipush (-102), 2) := by decide +kernel
theorem dX5_tell_99 : decode cX5_tell 99 = .ok (.ireturn, 1) := by decide +kernel
theorem dX5_piece_0 : decode cX5_piece 0 = .ok (.aload_n 0, 1) := by decide +kernel
theorem dX5_piece_1 : decode cX5_piece 1 = .ok (.iload_n 1, 1) := by decide +kernel
theorem dX5_piece_2 : decode cX5_piece 2 = .ok (.invokevirtual 95, 3) := by decide +kernel
theorem dX5_piece_5 : decode cX5_piece 5 = .ok (.ifCond .eq 12, 3) := by decide +kernel
theorem dX5_piece_8 : decode cX5_piece 8 = .ok (.aload_n 0, 1) := by decide +kernel
theorem dX5_piece_9 : decode cX5_piece 9 = .ok (.iload_n 1, 1) := by decide +kernel
theorem dX5_piece_10 : decode cX5_piece 10 = .ok (.iload_n 2, 1) := by decide +kernel
theorem dX5_piece_11 : decode cX5_piece 11 = .ok (.invokevirtual 99, 3) := by decide +kernel
theorem dX5_piece_14 : decode cX5_piece 14 = .ok (.goto 5, 3) := by decide +kernel
theorem dX5_piece_17 : decode cX5_piece 17 = .ok (.bipush (-101), 2) := by decide +kernel
theorem dX5_piece_19 : decode cX5_piece 19 = .ok (.ireturn, 1) := by decide +kernel
theorem dX5_as_0 : decode cX5_as 0 = .ok (.aload_n 0, 1) := by decide +kernel
theorem dX5_as_1 : decode cX5_as 1 = .ok (.iload_n 1, 1) := by decide +kernel
theorem dX5_as_2 : decode cX5_as 2 = .ok (.invokevirtual 95, 3) := by decide +kernel
theorem dX5_as_5 : decode cX5_as 5 = .ok (.ifCond .ne 6, 3) := by decide +kernel
theorem dX5_as_8 : decode cX5_as 8 = .ok (.bipush (-101), 2) := by decide +kernel
theorem dX5_as_10 : decode cX5_as 10 = .ok (.ireturn, 1) := by decide +kernel
theorem dX5_as_11 : decode cX5_as 11 = .ok (.iload_n 2, 1) := by decide +kernel
theorem dX5_as_12 : decode cX5_as 12 = .ok (.i2l, 1) := by decide +kernel
theorem dX5_as_13 : decode cX5_as 13 = .ok (.lconst 0, 1) := by decide +kernel
theorem dX5_as_14 : decode cX5_as 14 = .ok (.ldc2_w 102, 3) := by decide +kernel
theorem dX5_as_17 : decode cX5_as 17 = .ok (.invokestatic 40, 3) := by decide +kernel
theorem dX5_as_20 : decode cX5_as 20 = .ok (.ifCond .ne 6, 3) := by decide +kernel
theorem dX5_as_23 : decode cX5_as 23 = .ok (.bipush (-102), 2) := by decide +kernel
theorem dX5_as_25 : decode cX5_as 25 = .ok (.ireturn, 1) := by decide +kernel
theorem dX5_as_26 : decode cX5_as 26 = .ok (.aload_n 0, 1) := by decide +kernel
theorem dX5_as_27 : decode cX5_as 27 = .ok (.getfield 13, 3) := by decide +kernel
theorem dX5_as_30 : decode cX5_as 30 = .ok (.iconst 3, 1) := by decide +kernel
theorem dX5_as_31 : decode cX5_as 31 = .ok (.iload_n 1, 1) := by decide +kernel
theorem dX5_as_32 : decode cX5_as 32 = .ok (.imul, 1) := by decide +kernel
theorem dX5_as_33 : decode cX5_as 33 = .ok (.iaload, 1) := by decide +kernel
theorem dX5_as_34 : decode cX5_as 34 = .ok (.istore_n 3, 1) := by decide +kernel
theorem dX5_as_35 : decode cX5_as 35 = .ok (.iload_n 2, 1) := by decide +kernel
theorem dX5_as_36 : decode cX5_as 36 = .ok (.ifCond .eq 18, 3) := by decide +kernel
theorem dX5_as_39 : decode cX5_as 39 = .ok (.iload_n 2, 1) := by decide +kernel
theorem dX5_as_40 : decode cX5_as 40 = .ok (.iload_n 3, 1) := by decide +kernel
theorem dX5_as_41 : decode cX5_as 41 = .ok (.if_icmp .eq 13, 3) := by decide +kernel
theorem dX5_as_44 : decode cX5_as 44 = .ok (.iload_n 2, 1) := by decide +kernel
theorem dX5_as_45 : decode cX5_as 45 = .ok (.iconst 1, 1) := by decide +kernel
theorem dX5_as_46 : decode cX5_as 46 = .ok (.if_icmp .ne 12, 3) := by decide +kernel
theorem dX5_as_49 : decode cX5_as 49 = .ok (.iload_n 3, 1) := by decide +kernel
theorem dX5_as_50 : decode cX5_as 50 = .ok (.iconst 4, 1) := by decide +kernel
theorem dX5_as_51 : decode cX5_as 51 = .ok (.if_icmp .ne 7, 3) := by decide +kernel
theorem dX5_as_54 : decode cX5_as 54 = .ok (.iconst 1, 1) := by decide +kernel
theorem dX5_as_55 : decode cX5_as 55 = .ok (.goto 4, 3) := by decide +kernel
theorem dX5_as_58 : decode cX5_as 58 = .ok (.iconst 0, 1) := by decide +kernel
theorem dX5_as_59 : decode cX5_as 59 = .ok (.istore 4, 2) := by decide +kernel
theorem dX5_as_61 : decode cX5_as 61 = .ok (.iload 4, 2) := by decide +kernel
theorem dX5_as_63 : decode cX5_as 63 = .ok (.ifCond .eq 7, 3) := by decide +kernel
theorem dX5_as_66 : decode cX5_as 66 = .ok (.iload_n 1, 1) := by decide +kernel
theorem dX5_as_67 : decode cX5_as 67 = .ok (.goto 4, 3) := by decide +kernel
theorem dX5_as_70 : decode cX5_as 70 = .ok (.iconst (-1), 1) := by decide +kernel
theorem dX5_as_71 : decode cX5_as 71 = .ok (.ireturn, 1) := by decide +kernel
theorem dX5_put_0 : decode cX5_put 0 = .ok (.aload_n 0, 1) := by decide +kernel
theorem dX5_put_1 : decode cX5_put 1 = .ok (.iload_n 1, 1) := by decide +kernel
theorem dX5_put_2 : decode cX5_put 2 = .ok (.invokevirtual 95, 3) := by decide +kernel
theorem dX5_put_5 : decode cX5_put 5 = .ok (.ifCond .ne 6, 3) := by decide +kernel
theorem dX5_put_8 : decode cX5_put 8 = .ok (.bipush (-101), 2) := by decide +kernel
theorem dX5_put_10 : decode cX5_put 10 = .ok (.ireturn, 1) := by decide +kernel
theorem dX5_put_11 : decode cX5_put 11 = .ok (.aload_n 0, 1) := by decide +kernel
theorem dX5_put_12 : decode cX5_put 12 = .ok (.iload_n 1, 1) := by decide +kernel
theorem dX5_put_13 : decode cX5_put 13 = .ok (.invokevirtual 82, 3) := by decide +kernel
theorem dX5_put_16 : decode cX5_put 16 = .ok (.iconst (-1), 1) := by decide +kernel
theorem dX5_put_17 : decode cX5_put 17 = .ok (.if_icmp .eq 6, 3) := by decide +kernel
theorem dX5_put_20 : decode cX5_put 20 = .ok (.bipush (-103), 2) := by decide +kernel
theorem dX5_put_22 : decode cX5_put 22 = .ok (.ireturn, 1) := by decide +kernel
theorem dX5_put_23 : decode cX5_put 23 = .ok (.aload_n 0, 1) := by decide +kernel
theorem dX5_put_24 : decode cX5_put 24 = .ok (.getfield 66, 3) := by decide +kernel
theorem dX5_put_27 : decode cX5_put 27 = .ok (.iconst 5, 1) := by decide +kernel
theorem dX5_put_28 : decode cX5_put 28 = .ok (.if_icmp .ne 6, 3) := by decide +kernel
theorem dX5_put_31 : decode cX5_put 31 = .ok (.bipush (-104), 2) := by decide +kernel
theorem dX5_put_33 : decode cX5_put 33 = .ok (.ireturn, 1) := by decide +kernel
theorem dX5_put_34 : decode cX5_put 34 = .ok (.aload_n 0, 1) := by decide +kernel
theorem dX5_put_35 : decode cX5_put 35 = .ok (.getfield 16, 3) := by decide +kernel
theorem dX5_put_38 : decode cX5_put 38 = .ok (.aload_n 0, 1) := by decide +kernel
theorem dX5_put_39 : decode cX5_put 39 = .ok (.getfield 66, 3) := by decide +kernel
theorem dX5_put_42 : decode cX5_put 42 = .ok (.iload_n 1, 1) := by decide +kernel
theorem dX5_put_43 : decode cX5_put 43 = .ok (.iastore, 1) := by decide +kernel
theorem dX5_put_44 : decode cX5_put 44 = .ok (.aload_n 0, 1) := by decide +kernel
theorem dX5_put_45 : decode cX5_put 45 = .ok (.dup, 1) := by decide +kernel
theorem dX5_put_46 : decode cX5_put 46 = .ok (.getfield 66, 3) := by decide +kernel
theorem dX5_put_49 : decode cX5_put 49 = .ok (.iconst 1, 1) := by decide +kernel
theorem dX5_put_50 : decode cX5_put 50 = .ok (.iadd, 1) := by decide +kernel
theorem dX5_put_51 : decode cX5_put 51 = .ok (.putfield 66, 3) := by decide +kernel
theorem dX5_put_54 : decode cX5_put 54 = .ok (.aload_n 0, 1) := by decide +kernel
theorem dX5_put_55 : decode cX5_put 55 = .ok (.dup, 1) := by decide +kernel
theorem dX5_put_56 : decode cX5_put 56 = .ok (.getfield 69, 3) := by decide +kernel
theorem dX5_put_59 : decode cX5_put 59 = .ok (.iconst 1, 1) := by decide +kernel
theorem dX5_put_60 : decode cX5_put 60 = .ok (.iadd, 1) := by decide +kernel
theorem dX5_put_61 : decode cX5_put 61 = .ok (.putfield 69, 3) := by decide +kernel
theorem dX5_put_64 : decode cX5_put 64 = .ok (.aload_n 0, 1) := by decide +kernel
theorem dX5_put_65 : decode cX5_put 65 = .ok (.getfield 66, 3) := by decide +kernel
theorem dX5_put_68 : decode cX5_put 68 = .ok (.iconst 1, 1) := by decide +kernel
theorem dX5_put_69 : decode cX5_put 69 = .ok (.isub, 1) := by decide +kernel
theorem dX5_put_70 : decode cX5_put 70 = .ok (.ireturn, 1) := by decide +kernel
theorem dX5_take_0 : decode cX5_take 0 = .ok (.aload_n 0, 1) := by decide +kernel
theorem dX5_take_1 : decode cX5_take 1 = .ok (.iload_n 1, 1) := by decide +kernel
theorem dX5_take_2 : decode cX5_take 2 = .ok (.invokevirtual 104, 3) := by decide +kernel
theorem dX5_take_5 : decode cX5_take 5 = .ok (.ifCond .ne 6, 3) := by decide +kernel
theorem dX5_take_8 : decode cX5_take 8 = .ok (.bipush (-101), 2) := by decide +kernel
theorem dX5_take_10 : decode cX5_take 10 = .ok (.ireturn, 1) := by decide +kernel
theorem dX5_take_11 : decode cX5_take 11 = .ok (.aload_n 0, 1) := by decide +kernel
theorem dX5_take_12 : decode cX5_take 12 = .ok (.getfield 16, 3) := by decide +kernel
theorem dX5_take_15 : decode cX5_take 15 = .ok (.iload_n 1, 1) := by decide +kernel
theorem dX5_take_16 : decode cX5_take 16 = .ok (.iaload, 1) := by decide +kernel
theorem dX5_take_17 : decode cX5_take 17 = .ok (.istore_n 2, 1) := by decide +kernel
theorem dX5_take_18 : decode cX5_take 18 = .ok (.iload_n 1, 1) := by decide +kernel
theorem dX5_take_19 : decode cX5_take 19 = .ok (.istore_n 3, 1) := by decide +kernel
theorem dX5_take_20 : decode cX5_take 20 = .ok (.iload_n 3, 1) := by decide +kernel
theorem dX5_take_21 : decode cX5_take 21 = .ok (.aload_n 0, 1) := by decide +kernel
theorem dX5_take_22 : decode cX5_take 22 = .ok (.getfield 66, 3) := by decide +kernel
theorem dX5_take_25 : decode cX5_take 25 = .ok (.iconst 1, 1) := by decide +kernel
theorem dX5_take_26 : decode cX5_take 26 = .ok (.isub, 1) := by decide +kernel
theorem dX5_take_27 : decode cX5_take 27 = .ok (.if_icmp .ge 23, 3) := by decide +kernel
theorem dX5_take_30 : decode cX5_take 30 = .ok (.aload_n 0, 1) := by decide +kernel
theorem dX5_take_31 : decode cX5_take 31 = .ok (.getfield 16, 3) := by decide +kernel
theorem dX5_take_34 : decode cX5_take 34 = .ok (.iload_n 3, 1) := by decide +kernel
theorem dX5_take_35 : decode cX5_take 35 = .ok (.aload_n 0, 1) := by decide +kernel
theorem dX5_take_36 : decode cX5_take 36 = .ok (.getfield 16, 3) := by decide +kernel
theorem dX5_take_39 : decode cX5_take 39 = .ok (.iload_n 3, 1) := by decide +kernel
theorem dX5_take_40 : decode cX5_take 40 = .ok (.iconst 1, 1) := by decide +kernel
theorem dX5_take_41 : decode cX5_take 41 = .ok (.iadd, 1) := by decide +kernel
theorem dX5_take_42 : decode cX5_take 42 = .ok (.iaload, 1) := by decide +kernel
theorem dX5_take_43 : decode cX5_take 43 = .ok (.iastore, 1) := by decide +kernel
theorem dX5_take_44 : decode cX5_take 44 = .ok (.iinc 3 1, 3) := by decide +kernel
theorem dX5_take_47 : decode cX5_take 47 = .ok (.goto (-27), 3) := by decide +kernel
theorem dX5_take_50 : decode cX5_take 50 = .ok (.aload_n 0, 1) := by decide +kernel
theorem dX5_take_51 : decode cX5_take 51 = .ok (.dup, 1) := by decide +kernel
theorem dX5_take_52 : decode cX5_take 52 = .ok (.getfield 66, 3) := by decide +kernel
theorem dX5_take_55 : decode cX5_take 55 = .ok (.iconst 1, 1) := by decide +kernel
theorem dX5_take_56 : decode cX5_take 56 = .ok (.isub, 1) := by decide +kernel
theorem dX5_take_57 : decode cX5_take 57 = .ok (.putfield 66, 3) := by decide +kernel
theorem dX5_take_60 : decode cX5_take 60 = .ok (.aload_n 0, 1) := by decide +kernel
theorem dX5_take_61 : decode cX5_take 61 = .ok (.dup, 1) := by decide +kernel
theorem dX5_take_62 : decode cX5_take 62 = .ok (.getfield 69, 3) := by decide +kernel
theorem dX5_take_65 : decode cX5_take 65 = .ok (.iconst 1, 1) := by decide +kernel
theorem dX5_take_66 : decode cX5_take 66 = .ok (.iadd, 1) := by decide +kernel
theorem dX5_take_67 : decode cX5_take 67 = .ok (.putfield 69, 3) := by decide +kernel
theorem dX5_take_70 : decode cX5_take 70 = .ok (.iload_n 2, 1) := by decide +kernel
theorem dX5_take_71 : decode cX5_take 71 = .ok (.ireturn, 1) := by decide +kernel
theorem dX5_swap_0 : decode cX5_swap 0 = .ok (.aload_n 0, 1) := by decide +kernel
theorem dX5_swap_1 : decode cX5_swap 1 = .ok (.iload_n 1, 1) := by decide +kernel
theorem dX5_swap_2 : decode cX5_swap 2 = .ok (.invokevirtual 104, 3) := by decide +kernel
theorem dX5_swap_5 : decode cX5_swap 5 = .ok (.ifCond .eq 11, 3) := by decide +kernel
theorem dX5_swap_8 : decode cX5_swap 8 = .ok (.aload_n 0, 1) := by decide +kernel
theorem dX5_swap_9 : decode cX5_swap 9 = .ok (.iload_n 2, 1) := by decide +kernel
theorem dX5_swap_10 : decode cX5_swap 10 = .ok (.invokevirtual 104, 3) := by decide +kernel
theorem dX5_swap_13 : decode cX5_swap 13 = .ok (.ifCond .ne 6, 3) := by decide +kernel
theorem dX5_swap_16 : decode cX5_swap 16 = .ok (.bipush (-101), 2) := by decide +kernel
theorem dX5_swap_18 : decode cX5_swap 18 = .ok (.ireturn, 1) := by decide +kernel
theorem dX5_swap_19 : decode cX5_swap 19 = .ok (.aload_n 0, 1) := by decide +kernel
theorem dX5_swap_20 : decode cX5_swap 20 = .ok (.getfield 16, 3) := by decide +kernel
theorem dX5_swap_23 : decode cX5_swap 23 = .ok (.iload_n 1, 1) := by decide +kernel
theorem dX5_swap_24 : decode cX5_swap 24 = .ok (.iaload, 1) := by decide +kernel
theorem dX5_swap_25 : decode cX5_swap 25 = .ok (.istore_n 3, 1) := by decide +kernel
theorem dX5_swap_26 : decode cX5_swap 26 = .ok (.aload_n 0, 1) := by decide +kernel
theorem dX5_swap_27 : decode cX5_swap 27 = .ok (.getfield 16, 3) := by decide +kernel
theorem dX5_swap_30 : decode cX5_swap 30 = .ok (.iload_n 1, 1) := by decide +kernel
theorem dX5_swap_31 : decode cX5_swap 31 = .ok (.aload_n 0, 1) := by decide +kernel
theorem dX5_swap_32 : decode cX5_swap 32 = .ok (.getfield 16, 3) := by decide +kernel
theorem dX5_swap_35 : decode cX5_swap 35 = .ok (.iload_n 2, 1) := by decide +kernel
theorem dX5_swap_36 : decode cX5_swap 36 = .ok (.iaload, 1) := by decide +kernel
theorem dX5_swap_37 : decode cX5_swap 37 = .ok (.iastore, 1) := by decide +kernel
theorem dX5_swap_38 : decode cX5_swap 38 = .ok (.aload_n 0, 1) := by decide +kernel
theorem dX5_swap_39 : decode cX5_swap 39 = .ok (.getfield 16, 3) := by decide +kernel
theorem dX5_swap_42 : decode cX5_swap 42 = .ok (.iload_n 2, 1) := by decide +kernel
theorem dX5_swap_43 : decode cX5_swap 43 = .ok (.iload_n 3, 1) := by decide +kernel
theorem dX5_swap_44 : decode cX5_swap 44 = .ok (.iastore, 1) := by decide +kernel
theorem dX5_swap_45 : decode cX5_swap 45 = .ok (.aload_n 0, 1) := by decide +kernel
theorem dX5_swap_46 : decode cX5_swap 46 = .ok (.dup, 1) := by decide +kernel
theorem dX5_swap_47 : decode cX5_swap 47 = .ok (.getfield 69, 3) := by decide +kernel
theorem dX5_swap_50 : decode cX5_swap 50 = .ok (.iconst 1, 1) := by decide +kernel
theorem dX5_swap_51 : decode cX5_swap 51 = .ok (.iadd, 1) := by decide +kernel
theorem dX5_swap_52 : decode cX5_swap 52 = .ok (.putfield 69, 3) := by decide +kernel
theorem dX5_swap_55 : decode cX5_swap 55 = .ok (.aload_n 0, 1) := by decide +kernel
theorem dX5_swap_56 : decode cX5_swap 56 = .ok (.getfield 69, 3) := by decide +kernel
theorem dX5_swap_59 : decode cX5_swap 59 = .ok (.ireturn, 1) := by decide +kernel
theorem dX5_at_0 : decode cX5_at 0 = .ok (.aload_n 0, 1) := by decide +kernel
theorem dX5_at_1 : decode cX5_at 1 = .ok (.iload_n 1, 1) := by decide +kernel
theorem dX5_at_2 : decode cX5_at 2 = .ok (.invokevirtual 104, 3) := by decide +kernel
theorem dX5_at_5 : decode cX5_at 5 = .ok (.ifCond .eq 12, 3) := by decide +kernel
theorem dX5_at_8 : decode cX5_at 8 = .ok (.aload_n 0, 1) := by decide +kernel
theorem dX5_at_9 : decode cX5_at 9 = .ok (.getfield 16, 3) := by decide +kernel
theorem dX5_at_12 : decode cX5_at 12 = .ok (.iload_n 1, 1) := by decide +kernel
theorem dX5_at_13 : decode cX5_at 13 = .ok (.iaload, 1) := by decide +kernel
theorem dX5_at_14 : decode cX5_at 14 = .ok (.goto 5, 3) := by decide +kernel
theorem dX5_at_17 : decode cX5_at 17 = .ok (.bipush (-101), 2) := by decide +kernel
theorem dX5_at_19 : decode cX5_at 19 = .ok (.ireturn, 1) := by decide +kernel
theorem dX5_isFlight_0 : decode cX5_isFlight 0 = .ok (.aload_n 0, 1) := by decide +kernel
theorem dX5_isFlight_1 : decode cX5_isFlight 1 = .ok (.getfield 13, 3) := by decide +kernel
theorem dX5_isFlight_4 : decode cX5_isFlight 4 = .ok (.iconst 3, 1) := by decide +kernel
theorem dX5_isFlight_5 : decode cX5_isFlight 5 = .ok (.iload_n 1, 1) := by decide +kernel
theorem dX5_isFlight_6 : decode cX5_isFlight 6 = .ok (.imul, 1) := by decide +kernel
theorem dX5_isFlight_7 : decode cX5_isFlight 7 = .ok (.iaload, 1) := by decide +kernel
theorem dX5_isFlight_8 : decode cX5_isFlight 8 = .ok (.iconst 1, 1) := by decide +kernel
theorem dX5_isFlight_9 : decode cX5_isFlight 9 = .ok (.if_icmp .eq 15, 3) := by decide +kernel
theorem dX5_isFlight_12 : decode cX5_isFlight 12 = .ok (.aload_n 0, 1) := by decide +kernel
theorem dX5_isFlight_13 : decode cX5_isFlight 13 = .ok (.getfield 13, 3) := by decide +kernel
theorem dX5_isFlight_16 : decode cX5_isFlight 16 = .ok (.iconst 3, 1) := by decide +kernel
theorem dX5_isFlight_17 : decode cX5_isFlight 17 = .ok (.iload_n 1, 1) := by decide +kernel
theorem dX5_isFlight_18 : decode cX5_isFlight 18 = .ok (.imul, 1) := by decide +kernel
theorem dX5_isFlight_19 : decode cX5_isFlight 19 = .ok (.iaload, 1) := by decide +kernel
theorem dX5_isFlight_20 : decode cX5_isFlight 20 = .ok (.iconst 4, 1) := by decide +kernel
theorem dX5_isFlight_21 : decode cX5_isFlight 21 = .ok (.if_icmp .ne 7, 3) := by decide +kernel
theorem dX5_isFlight_24 : decode cX5_isFlight 24 = .ok (.iconst 1, 1) := by decide +kernel
theorem dX5_isFlight_25 : decode cX5_isFlight 25 = .ok (.goto 4, 3) := by decide +kernel
theorem dX5_isFlight_28 : decode cX5_isFlight 28 = .ok (.iconst 0, 1) := by decide +kernel
theorem dX5_isFlight_29 : decode cX5_isFlight 29 = .ok (.ireturn, 1) := by decide +kernel
theorem dX5_isTurn_0 : decode cX5_isTurn 0 = .ok (.aload_n 0, 1) := by decide +kernel
theorem dX5_isTurn_1 : decode cX5_isTurn 1 = .ok (.getfield 13, 3) := by decide +kernel
theorem dX5_isTurn_4 : decode cX5_isTurn 4 = .ok (.iconst 3, 1) := by decide +kernel
theorem dX5_isTurn_5 : decode cX5_isTurn 5 = .ok (.iload_n 1, 1) := by decide +kernel
theorem dX5_isTurn_6 : decode cX5_isTurn 6 = .ok (.imul, 1) := by decide +kernel
theorem dX5_isTurn_7 : decode cX5_isTurn 7 = .ok (.iaload, 1) := by decide +kernel
theorem dX5_isTurn_8 : decode cX5_isTurn 8 = .ok (.iconst 2, 1) := by decide +kernel
theorem dX5_isTurn_9 : decode cX5_isTurn 9 = .ok (.if_icmp .ne 7, 3) := by decide +kernel
theorem dX5_isTurn_12 : decode cX5_isTurn 12 = .ok (.iconst 1, 1) := by decide +kernel
theorem dX5_isTurn_13 : decode cX5_isTurn 13 = .ok (.goto 4, 3) := by decide +kernel
theorem dX5_isTurn_16 : decode cX5_isTurn 16 = .ok (.iconst 0, 1) := by decide +kernel
theorem dX5_isTurn_17 : decode cX5_isTurn 17 = .ok (.ireturn, 1) := by decide +kernel
theorem dX5_joins_0 : decode cX5_joins 0 = .ok (.iload_n 3, 1) := by decide +kernel
theorem dX5_joins_1 : decode cX5_joins 1 = .ok (.iload_n 2, 1) := by decide +kernel
theorem dX5_joins_2 : decode cX5_joins 2 = .ok (.iconst 1, 1) := by decide +kernel
theorem dX5_joins_3 : decode cX5_joins 3 = .ok (.isub, 1) := by decide +kernel
theorem dX5_joins_4 : decode cX5_joins 4 = .ok (.if_icmp .ge 41, 3) := by decide +kernel
theorem dX5_joins_7 : decode cX5_joins 7 = .ok (.aload_n 0, 1) := by decide +kernel
theorem dX5_joins_8 : decode cX5_joins 8 = .ok (.aload_n 1, 1) := by decide +kernel
theorem dX5_joins_9 : decode cX5_joins 9 = .ok (.iload_n 3, 1) := by decide +kernel
theorem dX5_joins_10 : decode cX5_joins 10 = .ok (.iaload, 1) := by decide +kernel
theorem dX5_joins_11 : decode cX5_joins 11 = .ok (.invokevirtual 107, 3) := by decide +kernel
theorem dX5_joins_14 : decode cX5_joins 14 = .ok (.ifCond .eq 31, 3) := by decide +kernel
theorem dX5_joins_17 : decode cX5_joins 17 = .ok (.aload_n 0, 1) := by decide +kernel
theorem dX5_joins_18 : decode cX5_joins 18 = .ok (.aload_n 1, 1) := by decide +kernel
theorem dX5_joins_19 : decode cX5_joins 19 = .ok (.iload_n 3, 1) := by decide +kernel
theorem dX5_joins_20 : decode cX5_joins 20 = .ok (.iconst 1, 1) := by decide +kernel
theorem dX5_joins_21 : decode cX5_joins 21 = .ok (.iadd, 1) := by decide +kernel
theorem dX5_joins_22 : decode cX5_joins 22 = .ok (.iaload, 1) := by decide +kernel
theorem dX5_joins_23 : decode cX5_joins 23 = .ok (.invokevirtual 107, 3) := by decide +kernel
theorem dX5_joins_26 : decode cX5_joins 26 = .ok (.ifCond .ne 15, 3) := by decide +kernel
theorem dX5_joins_29 : decode cX5_joins 29 = .ok (.aload_n 0, 1) := by decide +kernel
theorem dX5_joins_30 : decode cX5_joins 30 = .ok (.aload_n 1, 1) := by decide +kernel
theorem dX5_joins_31 : decode cX5_joins 31 = .ok (.iload_n 3, 1) := by decide +kernel
theorem dX5_joins_32 : decode cX5_joins 32 = .ok (.iconst 1, 1) := by decide +kernel
theorem dX5_joins_33 : decode cX5_joins 33 = .ok (.iadd, 1) := by decide +kernel
theorem dX5_joins_34 : decode cX5_joins 34 = .ok (.iaload, 1) := by decide +kernel
theorem dX5_joins_35 : decode cX5_joins 35 = .ok (.invokevirtual 110, 3) := by decide +kernel
theorem dX5_joins_38 : decode cX5_joins 38 = .ok (.ifCond .eq 7, 3) := by decide +kernel
theorem dX5_joins_41 : decode cX5_joins 41 = .ok (.iconst 1, 1) := by decide +kernel
theorem dX5_joins_42 : decode cX5_joins 42 = .ok (.goto 4, 3) := by decide +kernel
theorem dX5_joins_45 : decode cX5_joins 45 = .ok (.iconst 0, 1) := by decide +kernel
theorem dX5_joins_46 : decode cX5_joins 46 = .ok (.ireturn, 1) := by decide +kernel
theorem dX5_scoreOf_0 : decode cX5_scoreOf 0 = .ok (.iconst 0, 1) := by decide +kernel
theorem dX5_scoreOf_1 : decode cX5_scoreOf 1 = .ok (.istore 4, 2) := by decide +kernel
theorem dX5_scoreOf_3 : decode cX5_scoreOf 3 = .ok (.iconst 0, 1) := by decide +kernel
theorem dX5_scoreOf_4 : decode cX5_scoreOf 4 = .ok (.istore 5, 2) := by decide +kernel
theorem dX5_scoreOf_6 : decode cX5_scoreOf 6 = .ok (.iconst 0, 1) := by decide +kernel
theorem dX5_scoreOf_7 : decode cX5_scoreOf 7 = .ok (.istore 6, 2) := by decide +kernel
theorem dX5_scoreOf_9 : decode cX5_scoreOf 9 = .ok (.iconst 0, 1) := by decide +kernel
theorem dX5_scoreOf_10 : decode cX5_scoreOf 10 = .ok (.istore 7, 2) := by decide +kernel
theorem dX5_scoreOf_12 : decode cX5_scoreOf 12 = .ok (.iload 7, 2) := by decide +kernel
theorem dX5_scoreOf_14 : decode cX5_scoreOf 14 = .ok (.iload_n 2, 1) := by decide +kernel
theorem dX5_scoreOf_15 : decode cX5_scoreOf 15 = .ok (.if_icmp .ge 161, 3) := by decide +kernel
theorem dX5_scoreOf_18 : decode cX5_scoreOf 18 = .ok (.iload_n 3, 1) := by decide +kernel
theorem dX5_scoreOf_19 : decode cX5_scoreOf 19 = .ok (.iload 7, 2) := by decide +kernel
theorem dX5_scoreOf_21 : decode cX5_scoreOf 21 = .ok (.ishr, 1) := by decide +kernel
theorem dX5_scoreOf_22 : decode cX5_scoreOf 22 = .ok (.iconst 1, 1) := by decide +kernel
theorem dX5_scoreOf_23 : decode cX5_scoreOf 23 = .ok (.iand, 1) := by decide +kernel
theorem dX5_scoreOf_24 : decode cX5_scoreOf 24 = .ok (.iconst 1, 1) := by decide +kernel
theorem dX5_scoreOf_25 : decode cX5_scoreOf 25 = .ok (.if_icmp .ne 7, 3) := by decide +kernel
theorem dX5_scoreOf_28 : decode cX5_scoreOf 28 = .ok (.iconst 1, 1) := by decide +kernel
theorem dX5_scoreOf_29 : decode cX5_scoreOf 29 = .ok (.goto 4, 3) := by decide +kernel
theorem dX5_scoreOf_32 : decode cX5_scoreOf 32 = .ok (.iconst 0, 1) := by decide +kernel
theorem dX5_scoreOf_33 : decode cX5_scoreOf 33 = .ok (.istore 8, 2) := by decide +kernel
theorem dX5_scoreOf_35 : decode cX5_scoreOf 35 = .ok (.iload_n 3, 1) := by decide +kernel
theorem dX5_scoreOf_36 : decode cX5_scoreOf 36 = .ok (.iload 7, 2) := by decide +kernel
theorem dX5_scoreOf_38 : decode cX5_scoreOf 38 = .ok (.iconst 1, 1) := by decide +kernel
theorem dX5_scoreOf_39 : decode cX5_scoreOf 39 = .ok (.iadd, 1) := by decide +kernel
theorem dX5_scoreOf_40 : decode cX5_scoreOf 40 = .ok (.ishr, 1) := by decide +kernel
theorem dX5_scoreOf_41 : decode cX5_scoreOf 41 = .ok (.iconst 1, 1) := by decide +kernel
theorem dX5_scoreOf_42 : decode cX5_scoreOf 42 = .ok (.iand, 1) := by decide +kernel
theorem dX5_scoreOf_43 : decode cX5_scoreOf 43 = .ok (.iconst 1, 1) := by decide +kernel
theorem dX5_scoreOf_44 : decode cX5_scoreOf 44 = .ok (.if_icmp .ne 7, 3) := by decide +kernel
theorem dX5_scoreOf_47 : decode cX5_scoreOf 47 = .ok (.iconst 1, 1) := by decide +kernel
theorem dX5_scoreOf_48 : decode cX5_scoreOf 48 = .ok (.goto 4, 3) := by decide +kernel
theorem dX5_scoreOf_51 : decode cX5_scoreOf 51 = .ok (.iconst 0, 1) := by decide +kernel
theorem dX5_scoreOf_52 : decode cX5_scoreOf 52 = .ok (.istore 9, 2) := by decide +kernel
theorem dX5_scoreOf_54 : decode cX5_scoreOf 54 = .ok (.iload 5, 2) := by decide +kernel
theorem dX5_scoreOf_56 : decode cX5_scoreOf 56 = .ok (.aload_n 0, 1) := by decide +kernel
theorem dX5_scoreOf_57 : decode cX5_scoreOf 57 = .ok (.aload_n 1, 1) := by decide +kernel
theorem dX5_scoreOf_58 : decode cX5_scoreOf 58 = .ok (.iload 7, 2) := by decide +kernel
theorem dX5_scoreOf_60 : decode cX5_scoreOf 60 = .ok (.iaload, 1) := by decide +kernel
theorem dX5_scoreOf_61 : decode cX5_scoreOf 61 = .ok (.invokevirtual 107, 3) := by decide +kernel
theorem dX5_scoreOf_64 : decode cX5_scoreOf 64 = .ok (.ifCond .eq 7, 3) := by decide +kernel
theorem dX5_scoreOf_67 : decode cX5_scoreOf 67 = .ok (.iconst 1, 1) := by decide +kernel
theorem dX5_scoreOf_68 : decode cX5_scoreOf 68 = .ok (.goto 4, 3) := by decide +kernel
theorem dX5_scoreOf_71 : decode cX5_scoreOf 71 = .ok (.iconst 0, 1) := by decide +kernel
theorem dX5_scoreOf_72 : decode cX5_scoreOf 72 = .ok (.iadd, 1) := by decide +kernel
theorem dX5_scoreOf_73 : decode cX5_scoreOf 73 = .ok (.istore 5, 2) := by decide +kernel
theorem dX5_scoreOf_75 : decode cX5_scoreOf 75 = .ok (.iload 6, 2) := by decide +kernel
theorem dX5_scoreOf_77 : decode cX5_scoreOf 77 = .ok (.aload_n 0, 1) := by decide +kernel
theorem dX5_scoreOf_78 : decode cX5_scoreOf 78 = .ok (.aload_n 1, 1) := by decide +kernel
theorem dX5_scoreOf_79 : decode cX5_scoreOf 79 = .ok (.iload 7, 2) := by decide +kernel
theorem dX5_scoreOf_81 : decode cX5_scoreOf 81 = .ok (.iaload, 1) := by decide +kernel
theorem dX5_scoreOf_82 : decode cX5_scoreOf 82 = .ok (.invokevirtual 110, 3) := by decide +kernel
theorem dX5_scoreOf_85 : decode cX5_scoreOf 85 = .ok (.ifCond .eq 7, 3) := by decide +kernel
theorem dX5_scoreOf_88 : decode cX5_scoreOf 88 = .ok (.iconst 1, 1) := by decide +kernel
theorem dX5_scoreOf_89 : decode cX5_scoreOf 89 = .ok (.goto 4, 3) := by decide +kernel
theorem dX5_scoreOf_92 : decode cX5_scoreOf 92 = .ok (.iconst 0, 1) := by decide +kernel
theorem dX5_scoreOf_93 : decode cX5_scoreOf 93 = .ok (.iadd, 1) := by decide +kernel
theorem dX5_scoreOf_94 : decode cX5_scoreOf 94 = .ok (.istore 6, 2) := by decide +kernel
theorem dX5_scoreOf_96 : decode cX5_scoreOf 96 = .ok (.iload 4, 2) := by decide +kernel
theorem dX5_scoreOf_98 : decode cX5_scoreOf 98 = .ok (.iload 8, 2) := by decide +kernel
theorem dX5_scoreOf_100 : decode cX5_scoreOf 100 = .ok (.ifCond .eq 8, 3) := by decide +kernel
theorem dX5_scoreOf_103 : decode cX5_scoreOf 103 = .ok (.bipush (-10), 2) := by decide +kernel
theorem dX5_scoreOf_105 : decode cX5_scoreOf 105 = .ok (.goto 16, 3) := by decide +kernel
theorem dX5_scoreOf_108 : decode cX5_scoreOf 108 = .ok (.aload_n 0, 1) := by decide +kernel
theorem dX5_scoreOf_109 : decode cX5_scoreOf 109 = .ok (.getfield 13, 3) := by decide +kernel
theorem dX5_scoreOf_112 : decode cX5_scoreOf 112 = .ok (.iconst 3, 1) := by decide +kernel
theorem dX5_scoreOf_113 : decode cX5_scoreOf 113 = .ok (.aload_n 1, 1) := by decide +kernel
theorem dX5_scoreOf_114 : decode cX5_scoreOf 114 = .ok (.iload 7, 2) := by decide +kernel
theorem dX5_scoreOf_116 : decode cX5_scoreOf 116 = .ok (.iaload, 1) := by decide +kernel
theorem dX5_scoreOf_117 : decode cX5_scoreOf 117 = .ok (.imul, 1) := by decide +kernel
theorem dX5_scoreOf_118 : decode cX5_scoreOf 118 = .ok (.iconst 1, 1) := by decide +kernel
theorem dX5_scoreOf_119 : decode cX5_scoreOf 119 = .ok (.iadd, 1) := by decide +kernel
theorem dX5_scoreOf_120 : decode cX5_scoreOf 120 = .ok (.iaload, 1) := by decide +kernel
theorem dX5_scoreOf_121 : decode cX5_scoreOf 121 = .ok (.iadd, 1) := by decide +kernel
theorem dX5_scoreOf_122 : decode cX5_scoreOf 122 = .ok (.istore 4, 2) := by decide +kernel
theorem dX5_scoreOf_124 : decode cX5_scoreOf 124 = .ok (.aload_n 0, 1) := by decide +kernel
theorem dX5_scoreOf_125 : decode cX5_scoreOf 125 = .ok (.aload_n 1, 1) := by decide +kernel
theorem dX5_scoreOf_126 : decode cX5_scoreOf 126 = .ok (.iload_n 2, 1) := by decide +kernel
theorem dX5_scoreOf_127 : decode cX5_scoreOf 127 = .ok (.iload 7, 2) := by decide +kernel
theorem dX5_scoreOf_129 : decode cX5_scoreOf 129 = .ok (.invokevirtual 113, 3) := by decide +kernel
theorem dX5_scoreOf_132 : decode cX5_scoreOf 132 = .ok (.ifCond .eq 38, 3) := by decide +kernel
theorem dX5_scoreOf_135 : decode cX5_scoreOf 135 = .ok (.iload 8, 2) := by decide +kernel
theorem dX5_scoreOf_137 : decode cX5_scoreOf 137 = .ok (.ifCond .ne 33, 3) := by decide +kernel
theorem dX5_scoreOf_140 : decode cX5_scoreOf 140 = .ok (.iload 9, 2) := by decide +kernel
theorem dX5_scoreOf_142 : decode cX5_scoreOf 142 = .ok (.ifCond .ne 28, 3) := by decide +kernel
theorem dX5_scoreOf_145 : decode cX5_scoreOf 145 = .ok (.iload 4, 2) := by decide +kernel
theorem dX5_scoreOf_147 : decode cX5_scoreOf 147 = .ok (.aload_n 0, 1) := by decide +kernel
theorem dX5_scoreOf_148 : decode cX5_scoreOf 148 = .ok (.getfield 13, 3) := by decide +kernel
theorem dX5_scoreOf_151 : decode cX5_scoreOf 151 = .ok (.iconst 3, 1) := by decide +kernel
theorem dX5_scoreOf_152 : decode cX5_scoreOf 152 = .ok (.aload_n 1, 1) := by decide +kernel
theorem dX5_scoreOf_153 : decode cX5_scoreOf 153 = .ok (.iload 7, 2) := by decide +kernel
theorem dX5_scoreOf_155 : decode cX5_scoreOf 155 = .ok (.iaload, 1) := by decide +kernel
theorem dX5_scoreOf_156 : decode cX5_scoreOf 156 = .ok (.imul, 1) := by decide +kernel
theorem dX5_scoreOf_157 : decode cX5_scoreOf 157 = .ok (.iaload, 1) := by decide +kernel
theorem dX5_scoreOf_158 : decode cX5_scoreOf 158 = .ok (.iconst 4, 1) := by decide +kernel
theorem dX5_scoreOf_159 : decode cX5_scoreOf 159 = .ok (.if_icmp .ne 7, 3) := by decide +kernel
theorem dX5_scoreOf_162 : decode cX5_scoreOf 162 = .ok (.iconst 3, 1) := by decide +kernel
theorem dX5_scoreOf_163 : decode cX5_scoreOf 163 = .ok (.goto 4, 3) := by decide +kernel
theorem dX5_scoreOf_166 : decode cX5_scoreOf 166 = .ok (.iconst 2, 1) := by decide +kernel
theorem dX5_scoreOf_167 : decode cX5_scoreOf 167 = .ok (.iadd, 1) := by decide +kernel
theorem dX5_scoreOf_168 : decode cX5_scoreOf 168 = .ok (.istore 4, 2) := by decide +kernel
theorem dX5_scoreOf_170 : decode cX5_scoreOf 170 = .ok (.iinc 7 1, 3) := by decide +kernel
theorem dX5_scoreOf_173 : decode cX5_scoreOf 173 = .ok (.goto (-161), 3) := by decide +kernel
theorem dX5_scoreOf_176 : decode cX5_scoreOf 176 = .ok (.iload 4, 2) := by decide +kernel
theorem dX5_scoreOf_178 : decode cX5_scoreOf 178 = .ok (.iload 5, 2) := by decide +kernel
theorem dX5_scoreOf_180 : decode cX5_scoreOf 180 = .ok (.ifCond .ne 7, 3) := by decide +kernel
theorem dX5_scoreOf_183 : decode cX5_scoreOf 183 = .ok (.iconst 5, 1) := by decide +kernel
theorem dX5_scoreOf_184 : decode cX5_scoreOf 184 = .ok (.goto 4, 3) := by decide +kernel
theorem dX5_scoreOf_187 : decode cX5_scoreOf 187 = .ok (.iconst 0, 1) := by decide +kernel
theorem dX5_scoreOf_188 : decode cX5_scoreOf 188 = .ok (.isub, 1) := by decide +kernel
theorem dX5_scoreOf_189 : decode cX5_scoreOf 189 = .ok (.iload 6, 2) := by decide +kernel
theorem dX5_scoreOf_191 : decode cX5_scoreOf 191 = .ok (.ifCond .ne 7, 3) := by decide +kernel
theorem dX5_scoreOf_194 : decode cX5_scoreOf 194 = .ok (.iconst 5, 1) := by decide +kernel
theorem dX5_scoreOf_195 : decode cX5_scoreOf 195 = .ok (.goto 4, 3) := by decide +kernel
theorem dX5_scoreOf_198 : decode cX5_scoreOf 198 = .ok (.iconst 0, 1) := by decide +kernel
theorem dX5_scoreOf_199 : decode cX5_scoreOf 199 = .ok (.isub, 1) := by decide +kernel
theorem dX5_scoreOf_200 : decode cX5_scoreOf 200 = .ok (.ireturn, 1) := by decide +kernel
theorem dX5_waysOf_0 : decode cX5_waysOf 0 = .ok (.iconst 1, 1) := by decide +kernel
theorem dX5_waysOf_1 : decode cX5_waysOf 1 = .ok (.istore 4, 2) := by decide +kernel
theorem dX5_waysOf_3 : decode cX5_waysOf 3 = .ok (.iconst 0, 1) := by decide +kernel
theorem dX5_waysOf_4 : decode cX5_waysOf 4 = .ok (.istore 5, 2) := by decide +kernel
theorem dX5_waysOf_6 : decode cX5_waysOf 6 = .ok (.iload 5, 2) := by decide +kernel
theorem dX5_waysOf_8 : decode cX5_waysOf 8 = .ok (.iload_n 2, 1) := by decide +kernel
theorem dX5_waysOf_9 : decode cX5_waysOf 9 = .ok (.if_icmp .ge 46, 3) := by decide +kernel
theorem dX5_waysOf_12 : decode cX5_waysOf 12 = .ok (.aload_n 0, 1) := by decide +kernel
theorem dX5_waysOf_13 : decode cX5_waysOf 13 = .ok (.aload_n 1, 1) := by decide +kernel
theorem dX5_waysOf_14 : decode cX5_waysOf 14 = .ok (.iload 5, 2) := by decide +kernel
theorem dX5_waysOf_16 : decode cX5_waysOf 16 = .ok (.iaload, 1) := by decide +kernel
theorem dX5_waysOf_17 : decode cX5_waysOf 17 = .ok (.iload 5, 2) := by decide +kernel
theorem dX5_waysOf_19 : decode cX5_waysOf 19 = .ok (.invokevirtual 85, 3) := by decide +kernel
theorem dX5_waysOf_22 : decode cX5_waysOf 22 = .ok (.istore 6, 2) := by decide +kernel
theorem dX5_waysOf_24 : decode cX5_waysOf 24 = .ok (.iload 4, 2) := by decide +kernel
theorem dX5_waysOf_26 : decode cX5_waysOf 26 = .ok (.iload_n 3, 1) := by decide +kernel
theorem dX5_waysOf_27 : decode cX5_waysOf 27 = .ok (.iload 5, 2) := by decide +kernel
theorem dX5_waysOf_29 : decode cX5_waysOf 29 = .ok (.ishr, 1) := by decide +kernel
theorem dX5_waysOf_30 : decode cX5_waysOf 30 = .ok (.iconst 1, 1) := by decide +kernel
theorem dX5_waysOf_31 : decode cX5_waysOf 31 = .ok (.iand, 1) := by decide +kernel
theorem dX5_waysOf_32 : decode cX5_waysOf 32 = .ok (.iconst 1, 1) := by decide +kernel
theorem dX5_waysOf_33 : decode cX5_waysOf 33 = .ok (.if_icmp .ne 11, 3) := by decide +kernel
theorem dX5_waysOf_36 : decode cX5_waysOf 36 = .ok (.bipush 10, 2) := by decide +kernel
theorem dX5_waysOf_38 : decode cX5_waysOf 38 = .ok (.iload 6, 2) := by decide +kernel
theorem dX5_waysOf_40 : decode cX5_waysOf 40 = .ok (.isub, 1) := by decide +kernel
theorem dX5_waysOf_41 : decode cX5_waysOf 41 = .ok (.goto 5, 3) := by decide +kernel
theorem dX5_waysOf_44 : decode cX5_waysOf 44 = .ok (.iload 6, 2) := by decide +kernel
theorem dX5_waysOf_46 : decode cX5_waysOf 46 = .ok (.imul, 1) := by decide +kernel
theorem dX5_waysOf_47 : decode cX5_waysOf 47 = .ok (.istore 4, 2) := by decide +kernel
theorem dX5_waysOf_49 : decode cX5_waysOf 49 = .ok (.iinc 5 1, 3) := by decide +kernel
theorem dX5_waysOf_52 : decode cX5_waysOf 52 = .ok (.goto (-46), 3) := by decide +kernel
theorem dX5_waysOf_55 : decode cX5_waysOf 55 = .ok (.iload 4, 2) := by decide +kernel
theorem dX5_waysOf_57 : decode cX5_waysOf 57 = .ok (.ireturn, 1) := by decide +kernel
theorem dX5_powerOf_0 : decode cX5_powerOf 0 = .ok (.iconst 1, 1) := by decide +kernel
theorem dX5_powerOf_1 : decode cX5_powerOf 1 = .ok (.istore_n 1, 1) := by decide +kernel
theorem dX5_powerOf_2 : decode cX5_powerOf 2 = .ok (.iconst 0, 1) := by decide +kernel
theorem dX5_powerOf_3 : decode cX5_powerOf 3 = .ok (.istore_n 2, 1) := by decide +kernel
theorem dX5_powerOf_4 : decode cX5_powerOf 4 = .ok (.iload_n 2, 1) := by decide +kernel
theorem dX5_powerOf_5 : decode cX5_powerOf 5 = .ok (.iload_n 0, 1) := by decide +kernel
theorem dX5_powerOf_6 : decode cX5_powerOf 6 = .ok (.if_icmp .ge 14, 3) := by decide +kernel
theorem dX5_powerOf_9 : decode cX5_powerOf 9 = .ok (.iload_n 1, 1) := by decide +kernel
theorem dX5_powerOf_10 : decode cX5_powerOf 10 = .ok (.bipush 10, 2) := by decide +kernel
theorem dX5_powerOf_12 : decode cX5_powerOf 12 = .ok (.imul, 1) := by decide +kernel
theorem dX5_powerOf_13 : decode cX5_powerOf 13 = .ok (.istore_n 1, 1) := by decide +kernel
theorem dX5_powerOf_14 : decode cX5_powerOf 14 = .ok (.iinc 2 1, 3) := by decide +kernel
theorem dX5_powerOf_17 : decode cX5_powerOf 17 = .ok (.goto (-13), 3) := by decide +kernel
theorem dX5_powerOf_20 : decode cX5_powerOf 20 = .ok (.iload_n 1, 1) := by decide +kernel
theorem dX5_powerOf_21 : decode cX5_powerOf 21 = .ok (.ireturn, 1) := by decide +kernel
theorem dX5_score_0 : decode cX5_score 0 = .ok (.iload_n 1, 1) := by decide +kernel
theorem dX5_score_1 : decode cX5_score 1 = .ok (.i2l, 1) := by decide +kernel
theorem dX5_score_2 : decode cX5_score 2 = .ok (.lconst 0, 1) := by decide +kernel
theorem dX5_score_3 : decode cX5_score 3 = .ok (.iconst 1, 1) := by decide +kernel
theorem dX5_score_4 : decode cX5_score 4 = .ok (.aload_n 0, 1) := by decide +kernel
theorem dX5_score_5 : decode cX5_score 5 = .ok (.getfield 66, 3) := by decide +kernel
theorem dX5_score_8 : decode cX5_score 8 = .ok (.ishl, 1) := by decide +kernel
theorem dX5_score_9 : decode cX5_score 9 = .ok (.iconst 1, 1) := by decide +kernel
theorem dX5_score_10 : decode cX5_score 10 = .ok (.isub, 1) := by decide +kernel
theorem dX5_score_11 : decode cX5_score 11 = .ok (.i2l, 1) := by decide +kernel
theorem dX5_score_12 : decode cX5_score 12 = .ok (.invokestatic 40, 3) := by decide +kernel
theorem dX5_score_15 : decode cX5_score 15 = .ok (.ifCond .ne 6, 3) := by decide +kernel
theorem dX5_score_18 : decode cX5_score 18 = .ok (.bipush (-102), 2) := by decide +kernel
theorem dX5_score_20 : decode cX5_score 20 = .ok (.ireturn, 1) := by decide +kernel
theorem dX5_score_21 : decode cX5_score 21 = .ok (.aload_n 0, 1) := by decide +kernel
theorem dX5_score_22 : decode cX5_score 22 = .ok (.invokevirtual 117, 3) := by decide +kernel
theorem dX5_score_25 : decode cX5_score 25 = .ok (.ifCond .eq 8, 3) := by decide +kernel
theorem dX5_score_28 : decode cX5_score 28 = .ok (.bipush (-103), 2) := by decide +kernel
theorem dX5_score_30 : decode cX5_score 30 = .ok (.goto 20, 3) := by decide +kernel
theorem dX5_score_33 : decode cX5_score 33 = .ok (.aload_n 0, 1) := by decide +kernel
theorem dX5_score_34 : decode cX5_score 34 = .ok (.aload_n 0, 1) := by decide +kernel
theorem dX5_score_35 : decode cX5_score 35 = .ok (.getfield 16, 3) := by decide +kernel
theorem dX5_score_38 : decode cX5_score 38 = .ok (.aload_n 0, 1) := by decide +kernel
theorem dX5_score_39 : decode cX5_score 39 = .ok (.getfield 66, 3) := by decide +kernel
theorem dX5_score_42 : decode cX5_score 42 = .ok (.iload_n 1, 1) := by decide +kernel
theorem dX5_score_43 : decode cX5_score 43 = .ok (.invokevirtual 121, 3) := by decide +kernel
theorem dX5_score_46 : decode cX5_score 46 = .ok (.sipush 200, 3) := by decide +kernel
theorem dX5_score_49 : decode cX5_score 49 = .ok (.iadd, 1) := by decide +kernel
theorem dX5_score_50 : decode cX5_score 50 = .ok (.ireturn, 1) := by decide +kernel
theorem dX5_meanUp_0 : decode cX5_meanUp 0 = .ok (.iconst 0, 1) := by decide +kernel
theorem dX5_meanUp_1 : decode cX5_meanUp 1 = .ok (.istore_n 3, 1) := by decide +kernel
theorem dX5_meanUp_2 : decode cX5_meanUp 2 = .ok (.iconst 0, 1) := by decide +kernel
theorem dX5_meanUp_3 : decode cX5_meanUp 3 = .ok (.istore 4, 2) := by decide +kernel
theorem dX5_meanUp_5 : decode cX5_meanUp 5 = .ok (.iload 4, 2) := by decide +kernel
theorem dX5_meanUp_7 : decode cX5_meanUp 7 = .ok (.iconst 1, 1) := by decide +kernel
theorem dX5_meanUp_8 : decode cX5_meanUp 8 = .ok (.iload_n 2, 1) := by decide +kernel
theorem dX5_meanUp_9 : decode cX5_meanUp 9 = .ok (.ishl, 1) := by decide +kernel
theorem dX5_meanUp_10 : decode cX5_meanUp 10 = .ok (.if_icmp .ge 33, 3) := by decide +kernel
theorem dX5_meanUp_13 : decode cX5_meanUp 13 = .ok (.iload_n 3, 1) := by decide +kernel
theorem dX5_meanUp_14 : decode cX5_meanUp 14 = .ok (.aload_n 0, 1) := by decide +kernel
theorem dX5_meanUp_15 : decode cX5_meanUp 15 = .ok (.aload_n 1, 1) := by decide +kernel
theorem dX5_meanUp_16 : decode cX5_meanUp 16 = .ok (.iload_n 2, 1) := by decide +kernel
theorem dX5_meanUp_17 : decode cX5_meanUp 17 = .ok (.iload 4, 2) := by decide +kernel
theorem dX5_meanUp_19 : decode cX5_meanUp 19 = .ok (.invokevirtual 125, 3) := by decide +kernel
theorem dX5_meanUp_22 : decode cX5_meanUp 22 = .ok (.aload_n 0, 1) := by decide +kernel
theorem dX5_meanUp_23 : decode cX5_meanUp 23 = .ok (.aload_n 1, 1) := by decide +kernel
theorem dX5_meanUp_24 : decode cX5_meanUp 24 = .ok (.iload_n 2, 1) := by decide +kernel
theorem dX5_meanUp_25 : decode cX5_meanUp 25 = .ok (.iload 4, 2) := by decide +kernel
theorem dX5_meanUp_27 : decode cX5_meanUp 27 = .ok (.invokevirtual 121, 3) := by decide +kernel
