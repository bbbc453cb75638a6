theorem dX4_share_40 : decode cX4_share 40 = .ok (.ifCond .le 15, 3) := by decide +kernel
theorem dX4_share_43 : decode cX4_share 43 = .ok (.iload_n 2, 1) := by decide +kernel
theorem dX4_share_44 : decode cX4_share 44 = .ok (.i2d, 1) := by decide +kernel
theorem dX4_share_45 : decode cX4_share 45 = .ok (.iload_n 3, 1) := by decide +kernel
theorem dX4_share_46 : decode cX4_share 46 = .ok (.i2d, 1) := by decide +kernel
theorem dX4_share_47 : decode cX4_share 47 = .ok (.ddiv, 1) := by decide +kernel
theorem dX4_share_48 : decode cX4_share 48 = .ok (.d2f, 1) := by decide +kernel
theorem dX4_share_49 : decode cX4_share 49 = .ok (.invokestatic 136, 3) := by decide +kernel
theorem dX4_share_52 : decode cX4_share 52 = .ok (.goto 5, 3) := by decide +kernel
theorem dX4_share_55 : decode cX4_share 55 = .ok (.bipush (-6), 2) := by decide +kernel
theorem dX4_share_57 : decode cX4_share 57 = .ok (.ireturn, 1) := by decide +kernel
theorem dX4_mean_0 : decode cX4_mean 0 = .ok (.iload_n 1, 1) := by decide +kernel
theorem dX4_mean_1 : decode cX4_mean 1 = .ok (.invokestatic 72, 3) := by decide +kernel
theorem dX4_mean_4 : decode cX4_mean 4 = .ok (.ifCond .ne 7, 3) := by decide +kernel
theorem dX4_mean_7 : decode cX4_mean 7 = .ok (.ldc2_w 140, 3) := by decide +kernel
theorem dX4_mean_10 : decode cX4_mean 10 = .ok (.lreturn, 1) := by decide +kernel
theorem dX4_mean_11 : decode cX4_mean 11 = .ok (.aload_n 0, 1) := by decide +kernel
theorem dX4_mean_12 : decode cX4_mean 12 = .ok (.getfield 10, 3) := by decide +kernel
theorem dX4_mean_15 : decode cX4_mean 15 = .ok (.getfield 142, 3) := by decide +kernel
theorem dX4_mean_18 : decode cX4_mean 18 = .ok (.istore_n 2, 1) := by decide +kernel
theorem dX4_mean_19 : decode cX4_mean 19 = .ok (.iload_n 2, 1) := by decide +kernel
theorem dX4_mean_20 : decode cX4_mean 20 = .ok (.ifCond .le 25, 3) := by decide +kernel
theorem dX4_mean_23 : decode cX4_mean 23 = .ok (.aload_n 0, 1) := by decide +kernel
theorem dX4_mean_24 : decode cX4_mean 24 = .ok (.getfield 10, 3) := by decide +kernel
theorem dX4_mean_27 : decode cX4_mean 27 = .ok (.getfield 76, 3) := by decide +kernel
theorem dX4_mean_30 : decode cX4_mean 30 = .ok (.iload_n 1, 1) := by decide +kernel
theorem dX4_mean_31 : decode cX4_mean 31 = .ok (.aaload, 1) := by decide +kernel
theorem dX4_mean_32 : decode cX4_mean 32 = .ok (.getfield 145, 3) := by decide +kernel
theorem dX4_mean_35 : decode cX4_mean 35 = .ok (.l2d, 1) := by decide +kernel
theorem dX4_mean_36 : decode cX4_mean 36 = .ok (.iload_n 2, 1) := by decide +kernel
theorem dX4_mean_37 : decode cX4_mean 37 = .ok (.i2d, 1) := by decide +kernel
theorem dX4_mean_38 : decode cX4_mean 38 = .ok (.ddiv, 1) := by decide +kernel
theorem dX4_mean_39 : decode cX4_mean 39 = .ok (.invokestatic 149, 3) := by decide +kernel
theorem dX4_mean_42 : decode cX4_mean 42 = .ok (.goto 4, 3) := by decide +kernel
theorem dX4_mean_45 : decode cX4_mean 45 = .ok (.lconst 0, 1) := by decide +kernel
theorem dX4_mean_46 : decode cX4_mean 46 = .ok (.lreturn, 1) := by decide +kernel
theorem dX4_count_0 : decode cX4_count 0 = .ok (.iload_n 1, 1) := by decide +kernel
theorem dX4_count_1 : decode cX4_count 1 = .ok (.bipush 6, 2) := by decide +kernel
theorem dX4_count_3 : decode cX4_count 3 = .ok (.if_icmp .lt 22, 3) := by decide +kernel
theorem dX4_count_6 : decode cX4_count 6 = .ok (.iload_n 1, 1) := by decide +kernel
theorem dX4_count_7 : decode cX4_count 7 = .ok (.bipush 13, 2) := by decide +kernel
theorem dX4_count_9 : decode cX4_count 9 = .ok (.if_icmp .ge 16, 3) := by decide +kernel
theorem dX4_count_12 : decode cX4_count 12 = .ok (.aload_n 0, 1) := by decide +kernel
theorem dX4_count_13 : decode cX4_count 13 = .ok (.getfield 10, 3) := by decide +kernel
theorem dX4_count_16 : decode cX4_count 16 = .ok (.getfield 153, 3) := by decide +kernel
theorem dX4_count_19 : decode cX4_count 19 = .ok (.iload_n 1, 1) := by decide +kernel
theorem dX4_count_20 : decode cX4_count 20 = .ok (.bipush 6, 2) := by decide +kernel
theorem dX4_count_22 : decode cX4_count 22 = .ok (.isub, 1) := by decide +kernel
theorem dX4_count_23 : decode cX4_count 23 = .ok (.iaload, 1) := by decide +kernel
theorem dX4_count_24 : decode cX4_count 24 = .ok (.ireturn, 1) := by decide +kernel
theorem dX4_count_25 : decode cX4_count 25 = .ok (.iload_n 1, 1) := by decide +kernel
theorem dX4_count_26 : decode cX4_count 26 = .ok (.tableswitch 138 0 14 #[74, 82, 90, 98, 106, 114, 138, 138, 138, 138, 138, 138, 138, 122, 130], 74) := by decide +kernel
theorem dX4_count_100 : decode cX4_count 100 = .ok (.aload_n 0, 1) := by decide +kernel
theorem dX4_count_101 : decode cX4_count 101 = .ok (.getfield 10, 3) := by decide +kernel
theorem dX4_count_104 : decode cX4_count 104 = .ok (.getfield 142, 3) := by decide +kernel
theorem dX4_count_107 : decode cX4_count 107 = .ok (.ireturn, 1) := by decide +kernel
theorem dX4_count_108 : decode cX4_count 108 = .ok (.aload_n 0, 1) := by decide +kernel
theorem dX4_count_109 : decode cX4_count 109 = .ok (.getfield 10, 3) := by decide +kernel
theorem dX4_count_112 : decode cX4_count 112 = .ok (.invokevirtual 95, 3) := by decide +kernel
theorem dX4_count_115 : decode cX4_count 115 = .ok (.ireturn, 1) := by decide +kernel
theorem dX4_count_116 : decode cX4_count 116 = .ok (.aload_n 0, 1) := by decide +kernel
theorem dX4_count_117 : decode cX4_count 117 = .ok (.getfield 10, 3) := by decide +kernel
theorem dX4_count_120 : decode cX4_count 120 = .ok (.getfield 157, 3) := by decide +kernel
theorem dX4_count_123 : decode cX4_count 123 = .ok (.ireturn, 1) := by decide +kernel
theorem dX4_count_124 : decode cX4_count 124 = .ok (.aload_n 0, 1) := by decide +kernel
theorem dX4_count_125 : decode cX4_count 125 = .ok (.getfield 10, 3) := by decide +kernel
theorem dX4_count_128 : decode cX4_count 128 = .ok (.getfield 160, 3) := by decide +kernel
theorem dX4_count_131 : decode cX4_count 131 = .ok (.ireturn, 1) := by decide +kernel
theorem dX4_count_132 : decode cX4_count 132 = .ok (.aload_n 0, 1) := by decide +kernel
theorem dX4_count_133 : decode cX4_count 133 = .ok (.getfield 10, 3) := by decide +kernel
theorem dX4_count_136 : decode cX4_count 136 = .ok (.getfield 163, 3) := by decide +kernel
theorem dX4_count_139 : decode cX4_count 139 = .ok (.ireturn, 1) := by decide +kernel
theorem dX4_count_140 : decode cX4_count 140 = .ok (.aload_n 0, 1) := by decide +kernel
theorem dX4_count_141 : decode cX4_count 141 = .ok (.getfield 10, 3) := by decide +kernel
theorem dX4_count_144 : decode cX4_count 144 = .ok (.getfield 166, 3) := by decide +kernel
theorem dX4_count_147 : decode cX4_count 147 = .ok (.ireturn, 1) := by decide +kernel
theorem dX4_count_148 : decode cX4_count 148 = .ok (.aload_n 0, 1) := by decide +kernel
theorem dX4_count_149 : decode cX4_count 149 = .ok (.getfield 34, 3) := by decide +kernel
theorem dX4_count_152 : decode cX4_count 152 = .ok (.getfield 169, 3) := by decide +kernel
theorem dX4_count_155 : decode cX4_count 155 = .ok (.ireturn, 1) := by decide +kernel
theorem dX4_count_156 : decode cX4_count 156 = .ok (.aload_n 0, 1) := by decide +kernel
theorem dX4_count_157 : decode cX4_count 157 = .ok (.getfield 19, 3) := by decide +kernel
theorem dX4_count_160 : decode cX4_count 160 = .ok (.getfield 172, 3) := by decide +kernel
theorem dX4_count_163 : decode cX4_count 163 = .ok (.ireturn, 1) := by decide +kernel
theorem dX4_count_164 : decode cX4_count 164 = .ok (.bipush (-2), 2) := by decide +kernel
theorem dX4_count_166 : decode cX4_count 166 = .ok (.ireturn, 1) := by decide +kernel
theorem dX4_loudIn_0 : decode cX4_loudIn 0 = .ok (.aload_n 0, 1) := by decide +kernel
theorem dX4_loudIn_1 : decode cX4_loudIn 1 = .ok (.iload_n 1, 1) := by decide +kernel
theorem dX4_loudIn_2 : decode cX4_loudIn 2 = .ok (.iload_n 2, 1) := by decide +kernel
theorem dX4_loudIn_3 : decode cX4_loudIn 3 = .ok (.invokevirtual 175, 3) := by decide +kernel
theorem dX4_loudIn_6 : decode cX4_loudIn 6 = .ok (.istore_n 3, 1) := by decide +kernel
theorem dX4_loudIn_7 : decode cX4_loudIn 7 = .ok (.iload_n 3, 1) := by decide +kernel
theorem dX4_loudIn_8 : decode cX4_loudIn 8 = .ok (.ifCond .eq 5, 3) := by decide +kernel
theorem dX4_loudIn_11 : decode cX4_loudIn 11 = .ok (.iload_n 3, 1) := by decide +kernel
theorem dX4_loudIn_12 : decode cX4_loudIn 12 = .ok (.ireturn, 1) := by decide +kernel
theorem dX4_loudIn_13 : decode cX4_loudIn 13 = .ok (.aload_n 0, 1) := by decide +kernel
theorem dX4_loudIn_14 : decode cX4_loudIn 14 = .ok (.iload_n 2, 1) := by decide +kernel
theorem dX4_loudIn_15 : decode cX4_loudIn 15 = .ok (.invokevirtual 178, 3) := by decide +kernel
theorem dX4_loudIn_18 : decode cX4_loudIn 18 = .ok (.aload_n 0, 1) := by decide +kernel
theorem dX4_loudIn_19 : decode cX4_loudIn 19 = .ok (.getfield 38, 3) := by decide +kernel
theorem dX4_loudIn_22 : decode cX4_loudIn 22 = .ok (.getfield 76, 3) := by decide +kernel
theorem dX4_loudIn_25 : decode cX4_loudIn 25 = .ok (.iload_n 1, 1) := by decide +kernel
theorem dX4_loudIn_26 : decode cX4_loudIn 26 = .ok (.aaload, 1) := by decide +kernel
theorem dX4_loudIn_27 : decode cX4_loudIn 27 = .ok (.getfield 112, 3) := by decide +kernel
theorem dX4_loudIn_30 : decode cX4_loudIn 30 = .ok (.aload_n 0, 1) := by decide +kernel
theorem dX4_loudIn_31 : decode cX4_loudIn 31 = .ok (.getfield 10, 3) := by decide +kernel
theorem dX4_loudIn_34 : decode cX4_loudIn 34 = .ok (.getfield 76, 3) := by decide +kernel
theorem dX4_loudIn_37 : decode cX4_loudIn 37 = .ok (.iload_n 1, 1) := by decide +kernel
theorem dX4_loudIn_38 : decode cX4_loudIn 38 = .ok (.aaload, 1) := by decide +kernel
theorem dX4_loudIn_39 : decode cX4_loudIn 39 = .ok (.getfield 112, 3) := by decide +kernel
theorem dX4_loudIn_42 : decode cX4_loudIn 42 = .ok (.isub, 1) := by decide +kernel
theorem dX4_loudIn_43 : decode cX4_loudIn 43 = .ok (.ireturn, 1) := by decide +kernel
theorem dX4_freeIn_0 : decode cX4_freeIn 0 = .ok (.aload_n 0, 1) := by decide +kernel
theorem dX4_freeIn_1 : decode cX4_freeIn 1 = .ok (.iload_n 1, 1) := by decide +kernel
theorem dX4_freeIn_2 : decode cX4_freeIn 2 = .ok (.iload_n 2, 1) := by decide +kernel
theorem dX4_freeIn_3 : decode cX4_freeIn 3 = .ok (.invokevirtual 175, 3) := by decide +kernel
theorem dX4_freeIn_6 : decode cX4_freeIn 6 = .ok (.istore_n 3, 1) := by decide +kernel
theorem dX4_freeIn_7 : decode cX4_freeIn 7 = .ok (.iload_n 3, 1) := by decide +kernel
theorem dX4_freeIn_8 : decode cX4_freeIn 8 = .ok (.ifCond .eq 5, 3) := by decide +kernel
theorem dX4_freeIn_11 : decode cX4_freeIn 11 = .ok (.iload_n 3, 1) := by decide +kernel
theorem dX4_freeIn_12 : decode cX4_freeIn 12 = .ok (.ireturn, 1) := by decide +kernel
theorem dX4_freeIn_13 : decode cX4_freeIn 13 = .ok (.aload_n 0, 1) := by decide +kernel
theorem dX4_freeIn_14 : decode cX4_freeIn 14 = .ok (.iload_n 2, 1) := by decide +kernel
theorem dX4_freeIn_15 : decode cX4_freeIn 15 = .ok (.invokevirtual 178, 3) := by decide +kernel
theorem dX4_freeIn_18 : decode cX4_freeIn 18 = .ok (.aload_n 0, 1) := by decide +kernel
theorem dX4_freeIn_19 : decode cX4_freeIn 19 = .ok (.getfield 38, 3) := by decide +kernel
theorem dX4_freeIn_22 : decode cX4_freeIn 22 = .ok (.getfield 76, 3) := by decide +kernel
theorem dX4_freeIn_25 : decode cX4_freeIn 25 = .ok (.iload_n 1, 1) := by decide +kernel
theorem dX4_freeIn_26 : decode cX4_freeIn 26 = .ok (.aaload, 1) := by decide +kernel
theorem dX4_freeIn_27 : decode cX4_freeIn 27 = .ok (.getfield 80, 3) := by decide +kernel
theorem dX4_freeIn_30 : decode cX4_freeIn 30 = .ok (.ireturn, 1) := by decide +kernel
theorem dX4_mostHeld_0 : decode cX4_mostHeld 0 = .ok (.aload_n 0, 1) := by decide +kernel
theorem dX4_mostHeld_1 : decode cX4_mostHeld 1 = .ok (.iload_n 1, 1) := by decide +kernel
theorem dX4_mostHeld_2 : decode cX4_mostHeld 2 = .ok (.iload_n 2, 1) := by decide +kernel
theorem dX4_mostHeld_3 : decode cX4_mostHeld 3 = .ok (.invokevirtual 175, 3) := by decide +kernel
theorem dX4_mostHeld_6 : decode cX4_mostHeld 6 = .ok (.istore_n 3, 1) := by decide +kernel
theorem dX4_mostHeld_7 : decode cX4_mostHeld 7 = .ok (.iload_n 3, 1) := by decide +kernel
theorem dX4_mostHeld_8 : decode cX4_mostHeld 8 = .ok (.ifCond .eq 5, 3) := by decide +kernel
theorem dX4_mostHeld_11 : decode cX4_mostHeld 11 = .ok (.iload_n 3, 1) := by decide +kernel
theorem dX4_mostHeld_12 : decode cX4_mostHeld 12 = .ok (.ireturn, 1) := by decide +kernel
theorem dX4_mostHeld_13 : decode cX4_mostHeld 13 = .ok (.aload_n 0, 1) := by decide +kernel
theorem dX4_mostHeld_14 : decode cX4_mostHeld 14 = .ok (.getfield 38, 3) := by decide +kernel
theorem dX4_mostHeld_17 : decode cX4_mostHeld 17 = .ok (.aload_n 0, 1) := by decide +kernel
theorem dX4_mostHeld_18 : decode cX4_mostHeld 18 = .ok (.getfield 10, 3) := by decide +kernel
theorem dX4_mostHeld_21 : decode cX4_mostHeld 21 = .ok (.invokevirtual 182, 3) := by decide +kernel
theorem dX4_mostHeld_24 : decode cX4_mostHeld 24 = .ok (.iconst 0, 1) := by decide +kernel
theorem dX4_mostHeld_25 : decode cX4_mostHeld 25 = .ok (.istore 4, 2) := by decide +kernel
theorem dX4_mostHeld_27 : decode cX4_mostHeld 27 = .ok (.iconst 0, 1) := by decide +kernel
theorem dX4_mostHeld_28 : decode cX4_mostHeld 28 = .ok (.istore 5, 2) := by decide +kernel
theorem dX4_mostHeld_30 : decode cX4_mostHeld 30 = .ok (.iload 5, 2) := by decide +kernel
theorem dX4_mostHeld_32 : decode cX4_mostHeld 32 = .ok (.iload_n 2, 1) := by decide +kernel
theorem dX4_mostHeld_33 : decode cX4_mostHeld 33 = .ok (.if_icmp .ge 36, 3) := by decide +kernel
theorem dX4_mostHeld_36 : decode cX4_mostHeld 36 = .ok (.aload_n 0, 1) := by decide +kernel
theorem dX4_mostHeld_37 : decode cX4_mostHeld 37 = .ok (.getfield 38, 3) := by decide +kernel
theorem dX4_mostHeld_40 : decode cX4_mostHeld 40 = .ok (.invokevirtual 185, 3) := by decide +kernel
theorem dX4_mostHeld_43 : decode cX4_mostHeld 43 = .ok (.pop, 1) := by decide +kernel
theorem dX4_mostHeld_44 : decode cX4_mostHeld 44 = .ok (.iload 4, 2) := by decide +kernel
theorem dX4_mostHeld_46 : decode cX4_mostHeld 46 = .ok (.aload_n 0, 1) := by decide +kernel
theorem dX4_mostHeld_47 : decode cX4_mostHeld 47 = .ok (.getfield 38, 3) := by decide +kernel
theorem dX4_mostHeld_50 : decode cX4_mostHeld 50 = .ok (.getfield 76, 3) := by decide +kernel
theorem dX4_mostHeld_53 : decode cX4_mostHeld 53 = .ok (.iload_n 1, 1) := by decide +kernel
theorem dX4_mostHeld_54 : decode cX4_mostHeld 54 = .ok (.aaload, 1) := by decide +kernel
theorem dX4_mostHeld_55 : decode cX4_mostHeld 55 = .ok (.getfield 92, 3) := by decide +kernel
theorem dX4_mostHeld_58 : decode cX4_mostHeld 58 = .ok (.invokestatic 189, 3) := by decide +kernel
theorem dX4_mostHeld_61 : decode cX4_mostHeld 61 = .ok (.istore 4, 2) := by decide +kernel
theorem dX4_mostHeld_63 : decode cX4_mostHeld 63 = .ok (.iinc 5 1, 3) := by decide +kernel
theorem dX4_mostHeld_66 : decode cX4_mostHeld 66 = .ok (.goto (-36), 3) := by decide +kernel
theorem dX4_mostHeld_69 : decode cX4_mostHeld 69 = .ok (.iload 4, 2) := by decide +kernel
theorem dX4_mostHeld_71 : decode cX4_mostHeld 71 = .ok (.ireturn, 1) := by decide +kernel
theorem dX4_firstSafe_0 : decode cX4_firstSafe 0 = .ok (.iload_n 1, 1) := by decide +kernel
theorem dX4_firstSafe_1 : decode cX4_firstSafe 1 = .ok (.invokestatic 72, 3) := by decide +kernel
theorem dX4_firstSafe_4 : decode cX4_firstSafe 4 = .ok (.ifCond .ne 5, 3) := by decide +kernel
theorem dX4_firstSafe_7 : decode cX4_firstSafe 7 = .ok (.iconst (-1), 1) := by decide +kernel
theorem dX4_firstSafe_8 : decode cX4_firstSafe 8 = .ok (.ireturn, 1) := by decide +kernel
theorem dX4_firstSafe_9 : decode cX4_firstSafe 9 = .ok (.aload_n 0, 1) := by decide +kernel
theorem dX4_firstSafe_10 : decode cX4_firstSafe 10 = .ok (.getfield 38, 3) := by decide +kernel
theorem dX4_firstSafe_13 : decode cX4_firstSafe 13 = .ok (.aload_n 0, 1) := by decide +kernel
theorem dX4_firstSafe_14 : decode cX4_firstSafe 14 = .ok (.getfield 10, 3) := by decide +kernel
theorem dX4_firstSafe_17 : decode cX4_firstSafe 17 = .ok (.invokevirtual 182, 3) := by decide +kernel
theorem dX4_firstSafe_20 : decode cX4_firstSafe 20 = .ok (.aload_n 0, 1) := by decide +kernel
theorem dX4_firstSafe_21 : decode cX4_firstSafe 21 = .ok (.getfield 10, 3) := by decide +kernel
theorem dX4_firstSafe_24 : decode cX4_firstSafe 24 = .ok (.invokevirtual 95, 3) := by decide +kernel
theorem dX4_firstSafe_27 : decode cX4_firstSafe 27 = .ok (.istore_n 2, 1) := by decide +kernel
theorem dX4_firstSafe_28 : decode cX4_firstSafe 28 = .ok (.iload_n 2, 1) := by decide +kernel
theorem dX4_firstSafe_29 : decode cX4_firstSafe 29 = .ok (.bipush 24, 2) := by decide +kernel
theorem dX4_firstSafe_31 : decode cX4_firstSafe 31 = .ok (.iadd, 1) := by decide +kernel
theorem dX4_firstSafe_32 : decode cX4_firstSafe 32 = .ok (.bipush 99, 2) := by decide +kernel
theorem dX4_firstSafe_34 : decode cX4_firstSafe 34 = .ok (.invokestatic 194, 3) := by decide +kernel
theorem dX4_firstSafe_37 : decode cX4_firstSafe 37 = .ok (.istore_n 3, 1) := by decide +kernel
theorem dX4_firstSafe_38 : decode cX4_firstSafe 38 = .ok (.iload_n 2, 1) := by decide +kernel
theorem dX4_firstSafe_39 : decode cX4_firstSafe 39 = .ok (.iconst 1, 1) := by decide +kernel
theorem dX4_firstSafe_40 : decode cX4_firstSafe 40 = .ok (.iadd, 1) := by decide +kernel
theorem dX4_firstSafe_41 : decode cX4_firstSafe 41 = .ok (.istore 4, 2) := by decide +kernel
theorem dX4_firstSafe_43 : decode cX4_firstSafe 43 = .ok (.iload 4, 2) := by decide +kernel
theorem dX4_firstSafe_45 : decode cX4_firstSafe 45 = .ok (.iload_n 3, 1) := by decide +kernel
theorem dX4_firstSafe_46 : decode cX4_firstSafe 46 = .ok (.if_icmp .gt 88, 3) := by decide +kernel
theorem dX4_firstSafe_49 : decode cX4_firstSafe 49 = .ok (.aload_n 0, 1) := by decide +kernel
theorem dX4_firstSafe_50 : decode cX4_firstSafe 50 = .ok (.getfield 38, 3) := by decide +kernel
theorem dX4_firstSafe_53 : decode cX4_firstSafe 53 = .ok (.iload 4, 2) := by decide +kernel
theorem dX4_firstSafe_55 : decode cX4_firstSafe 55 = .ok (.bipush 60, 2) := by decide +kernel
theorem dX4_firstSafe_57 : decode cX4_firstSafe 57 = .ok (.imul, 1) := by decide +kernel
theorem dX4_firstSafe_58 : decode cX4_firstSafe 58 = .ok (.aload_n 0, 1) := by decide +kernel
theorem dX4_firstSafe_59 : decode cX4_firstSafe 59 = .ok (.getfield 38, 3) := by decide +kernel
theorem dX4_firstSafe_62 : decode cX4_firstSafe 62 = .ok (.getfield 142, 3) := by decide +kernel
theorem dX4_firstSafe_65 : decode cX4_firstSafe 65 = .ok (.isub, 1) := by decide +kernel
theorem dX4_firstSafe_66 : decode cX4_firstSafe 66 = .ok (.invokevirtual 69, 3) := by decide +kernel
theorem dX4_firstSafe_69 : decode cX4_firstSafe 69 = .ok (.pop, 1) := by decide +kernel
theorem dX4_firstSafe_70 : decode cX4_firstSafe 70 = .ok (.aload_n 0, 1) := by decide +kernel
theorem dX4_firstSafe_71 : decode cX4_firstSafe 71 = .ok (.getfield 38, 3) := by decide +kernel
theorem dX4_firstSafe_74 : decode cX4_firstSafe 74 = .ok (.getfield 76, 3) := by decide +kernel
theorem dX4_firstSafe_77 : decode cX4_firstSafe 77 = .ok (.iload_n 1, 1) := by decide +kernel
theorem dX4_firstSafe_78 : decode cX4_firstSafe 78 = .ok (.aaload, 1) := by decide +kernel
theorem dX4_firstSafe_79 : decode cX4_firstSafe 79 = .ok (.iload 4, 2) := by decide +kernel
theorem dX4_firstSafe_81 : decode cX4_firstSafe 81 = .ok (.invokevirtual 130, 3) := by decide +kernel
theorem dX4_firstSafe_84 : decode cX4_firstSafe 84 = .ok (.ifCond .ne 44, 3) := by decide +kernel
theorem dX4_firstSafe_87 : decode cX4_firstSafe 87 = .ok (.aload_n 0, 1) := by decide +kernel
theorem dX4_firstSafe_88 : decode cX4_firstSafe 88 = .ok (.getfield 41, 3) := by decide +kernel
theorem dX4_firstSafe_91 : decode cX4_firstSafe 91 = .ok (.aload_n 0, 1) := by decide +kernel
theorem dX4_firstSafe_92 : decode cX4_firstSafe 92 = .ok (.getfield 38, 3) := by decide +kernel
theorem dX4_firstSafe_95 : decode cX4_firstSafe 95 = .ok (.invokevirtual 182, 3) := by decide +kernel
theorem dX4_firstSafe_98 : decode cX4_firstSafe 98 = .ok (.aload_n 0, 1) := by decide +kernel
theorem dX4_firstSafe_99 : decode cX4_firstSafe 99 = .ok (.getfield 41, 3) := by decide +kernel
theorem dX4_firstSafe_102 : decode cX4_firstSafe 102 = .ok (.getfield 76, 3) := by decide +kernel
theorem dX4_firstSafe_105 : decode cX4_firstSafe 105 = .ok (.iload_n 1, 1) := by decide +kernel
theorem dX4_firstSafe_106 : decode cX4_firstSafe 106 = .ok (.aaload, 1) := by decide +kernel
theorem dX4_firstSafe_107 : decode cX4_firstSafe 107 = .ok (.iload 4, 2) := by decide +kernel
theorem dX4_firstSafe_109 : decode cX4_firstSafe 109 = .ok (.iconst 1, 1) := by decide +kernel
theorem dX4_firstSafe_110 : decode cX4_firstSafe 110 = .ok (.invokevirtual 197, 3) := by decide +kernel
theorem dX4_firstSafe_113 : decode cX4_firstSafe 113 = .ok (.aload_n 0, 1) := by decide +kernel
theorem dX4_firstSafe_114 : decode cX4_firstSafe 114 = .ok (.getfield 41, 3) := by decide +kernel
theorem dX4_firstSafe_117 : decode cX4_firstSafe 117 = .ok (.bipush 60, 2) := by decide +kernel
theorem dX4_firstSafe_119 : decode cX4_firstSafe 119 = .ok (.invokevirtual 201, 3) := by decide +kernel
theorem dX4_firstSafe_122 : decode cX4_firstSafe 122 = .ok (.ifCond .eq 6, 3) := by decide +kernel
theorem dX4_firstSafe_125 : decode cX4_firstSafe 125 = .ok (.iload 4, 2) := by decide +kernel
theorem dX4_firstSafe_127 : decode cX4_firstSafe 127 = .ok (.ireturn, 1) := by decide +kernel
theorem dX4_firstSafe_128 : decode cX4_firstSafe 128 = .ok (.iinc 4 1, 3) := by decide +kernel
theorem dX4_firstSafe_131 : decode cX4_firstSafe 131 = .ok (.goto (-88), 3) := by decide +kernel
theorem dX4_firstSafe_134 : decode cX4_firstSafe 134 = .ok (.bipush (-6), 2) := by decide +kernel
theorem dX4_firstSafe_136 : decode cX4_firstSafe 136 = .ok (.ireturn, 1) := by decide +kernel
theorem dX4_leastRoom_0 : decode cX4_leastRoom 0 = .ok (.iload_n 1, 1) := by decide +kernel
theorem dX4_leastRoom_1 : decode cX4_leastRoom 1 = .ok (.iconst 1, 1) := by decide +kernel
theorem dX4_leastRoom_2 : decode cX4_leastRoom 2 = .ok (.if_icmp .lt 9, 3) := by decide +kernel
theorem dX4_leastRoom_5 : decode cX4_leastRoom 5 = .ok (.iload_n 1, 1) := by decide +kernel
theorem dX4_leastRoom_6 : decode cX4_leastRoom 6 = .ok (.bipush 10, 2) := by decide +kernel
theorem dX4_leastRoom_8 : decode cX4_leastRoom 8 = .ok (.if_icmp .le 6, 3) := by decide +kernel
theorem dX4_leastRoom_11 : decode cX4_leastRoom 11 = .ok (.bipush (-2), 2) := by decide +kernel
theorem dX4_leastRoom_13 : decode cX4_leastRoom 13 = .ok (.ireturn, 1) := by decide +kernel
theorem dX4_leastRoom_14 : decode cX4_leastRoom 14 = .ok (.getstatic 204, 3) := by decide +kernel
theorem dX4_leastRoom_17 : decode cX4_leastRoom 17 = .ok (.bipush 6, 2) := by decide +kernel
theorem dX4_leastRoom_19 : decode cX4_leastRoom 19 = .ok (.iaload, 1) := by decide +kernel
theorem dX4_leastRoom_20 : decode cX4_leastRoom 20 = .ok (.istore_n 2, 1) := by decide +kernel
theorem dX4_leastRoom_21 : decode cX4_leastRoom 21 = .ok (.iload_n 2, 1) := by decide +kernel
theorem dX4_leastRoom_22 : decode cX4_leastRoom 22 = .ok (.getstatic 207, 3) := by decide +kernel
theorem dX4_leastRoom_25 : decode cX4_leastRoom 25 = .ok (.bipush 6, 2) := by decide +kernel
theorem dX4_leastRoom_27 : decode cX4_leastRoom 27 = .ok (.iaload, 1) := by decide +kernel
theorem dX4_leastRoom_28 : decode cX4_leastRoom 28 = .ok (.if_icmp .gt 47, 3) := by decide +kernel
theorem dX4_leastRoom_31 : decode cX4_leastRoom 31 = .ok (.aload_n 0, 1) := by decide +kernel
theorem dX4_leastRoom_32 : decode cX4_leastRoom 32 = .ok (.getfield 38, 3) := by decide +kernel
theorem dX4_leastRoom_35 : decode cX4_leastRoom 35 = .ok (.aload_n 0, 1) := by decide +kernel
theorem dX4_leastRoom_36 : decode cX4_leastRoom 36 = .ok (.getfield 10, 3) := by decide +kernel
theorem dX4_leastRoom_39 : decode cX4_leastRoom 39 = .ok (.invokevirtual 182, 3) := by decide +kernel
theorem dX4_leastRoom_42 : decode cX4_leastRoom 42 = .ok (.aload_n 0, 1) := by decide +kernel
theorem dX4_leastRoom_43 : decode cX4_leastRoom 43 = .ok (.getfield 38, 3) := by decide +kernel
theorem dX4_leastRoom_46 : decode cX4_leastRoom 46 = .ok (.getfield 153, 3) := by decide +kernel
theorem dX4_leastRoom_49 : decode cX4_leastRoom 49 = .ok (.bipush 6, 2) := by decide +kernel
theorem dX4_leastRoom_51 : decode cX4_leastRoom 51 = .ok (.iload_n 2, 1) := by decide +kernel
theorem dX4_leastRoom_52 : decode cX4_leastRoom 52 = .ok (.iastore, 1) := by decide +kernel
theorem dX4_leastRoom_53 : decode cX4_leastRoom 53 = .ok (.aload_n 0, 1) := by decide +kernel
theorem dX4_leastRoom_54 : decode cX4_leastRoom 54 = .ok (.getfield 38, 3) := by decide +kernel
theorem dX4_leastRoom_57 : decode cX4_leastRoom 57 = .ok (.iload_n 1, 1) := by decide +kernel
theorem dX4_leastRoom_58 : decode cX4_leastRoom 58 = .ok (.bipush 60, 2) := by decide +kernel
theorem dX4_leastRoom_60 : decode cX4_leastRoom 60 = .ok (.imul, 1) := by decide +kernel
theorem dX4_leastRoom_61 : decode cX4_leastRoom 61 = .ok (.invokevirtual 201, 3) := by decide +kernel
theorem dX4_leastRoom_64 : decode cX4_leastRoom 64 = .ok (.ifCond .eq 5, 3) := by decide +kernel
theorem dX4_leastRoom_67 : decode cX4_leastRoom 67 = .ok (.iload_n 2, 1) := by decide +kernel
theorem dX4_leastRoom_68 : decode cX4_leastRoom 68 = .ok (.ireturn, 1) := by decide +kernel
theorem dX4_leastRoom_69 : decode cX4_leastRoom 69 = .ok (.iinc 2 1, 3) := by decide +kernel
theorem dX4_leastRoom_72 : decode cX4_leastRoom 72 = .ok (.goto (-51), 3) := by decide +kernel
theorem dX4_leastRoom_75 : decode cX4_leastRoom 75 = .ok (.bipush (-6), 2) := by decide +kernel
theorem dX4_leastRoom_77 : decode cX4_leastRoom 77 = .ok (.ireturn, 1) := by decide +kernel
theorem dX4_put_0 : decode cX4_put 0 = .ok (.lload_n 1, 1) := by decide +kernel
theorem dX4_put_1 : decode cX4_put 1 = .ok (.invokestatic 210, 3) := by decide +kernel
theorem dX4_put_4 : decode cX4_put 4 = .ok (.istore_n 3, 1) := by decide +kernel
theorem dX4_put_5 : decode cX4_put 5 = .ok (.iload_n 3, 1) := by decide +kernel
theorem dX4_put_6 : decode cX4_put 6 = .ok (.ifCond .ne 6, 3) := by decide +kernel
theorem dX4_put_9 : decode cX4_put 9 = .ok (.bipush (-2), 2) := by decide +kernel
theorem dX4_put_11 : decode cX4_put 11 = .ok (.ireturn, 1) := by decide +kernel
theorem dX4_put_12 : decode cX4_put 12 = .ok (.aload_n 0, 1) := by decide +kernel
theorem dX4_put_13 : decode cX4_put 13 = .ok (.getfield 34, 3) := by decide +kernel
theorem dX4_put_16 : decode cX4_put 16 = .ok (.getfield 169, 3) := by decide +kernel
theorem dX4_put_19 : decode cX4_put 19 = .ok (.iload_n 3, 1) := by decide +kernel
theorem dX4_put_20 : decode cX4_put 20 = .ok (.iadd, 1) := by decide +kernel
theorem dX4_put_21 : decode cX4_put 21 = .ok (.bipush 80, 2) := by decide +kernel
theorem dX4_put_23 : decode cX4_put 23 = .ok (.if_icmp .le 6, 3) := by decide +kernel
theorem dX4_put_26 : decode cX4_put 26 = .ok (.bipush (-4), 2) := by decide +kernel
theorem dX4_put_28 : decode cX4_put 28 = .ok (.ireturn, 1) := by decide +kernel
theorem dX4_put_29 : decode cX4_put 29 = .ok (.aload_n 0, 1) := by decide +kernel
theorem dX4_put_30 : decode cX4_put 30 = .ok (.getfield 34, 3) := by decide +kernel
theorem dX4_put_33 : decode cX4_put 33 = .ok (.lload_n 1, 1) := by decide +kernel
theorem dX4_put_34 : decode cX4_put 34 = .ok (.iload_n 3, 1) := by decide +kernel
theorem dX4_put_35 : decode cX4_put 35 = .ok (.invokevirtual 214, 3) := by decide +kernel
theorem dX4_put_38 : decode cX4_put 38 = .ok (.aload_n 0, 1) := by decide +kernel
theorem dX4_put_39 : decode cX4_put 39 = .ok (.getfield 34, 3) := by decide +kernel
theorem dX4_put_42 : decode cX4_put 42 = .ok (.getfield 169, 3) := by decide +kernel
theorem dX4_put_45 : decode cX4_put 45 = .ok (.ireturn, 1) := by decide +kernel
theorem dX4_wipe_0 : decode cX4_wipe 0 = .ok (.aload_n 0, 1) := by decide +kernel
theorem dX4_wipe_1 : decode cX4_wipe 1 = .ok (.getfield 34, 3) := by decide +kernel
theorem dX4_wipe_4 : decode cX4_wipe 4 = .ok (.getfield 169, 3) := by decide +kernel
theorem dX4_wipe_7 : decode cX4_wipe 7 = .ok (.istore_n 1, 1) := by decide +kernel
theorem dX4_wipe_8 : decode cX4_wipe 8 = .ok (.aload_n 0, 1) := by decide +kernel
theorem dX4_wipe_9 : decode cX4_wipe 9 = .ok (.getfield 34, 3) := by decide +kernel
theorem dX4_wipe_12 : decode cX4_wipe 12 = .ok (.iconst 0, 1) := by decide +kernel
theorem dX4_wipe_13 : decode cX4_wipe 13 = .ok (.putfield 169, 3) := by decide +kernel
theorem dX4_wipe_16 : decode cX4_wipe 16 = .ok (.iload_n 1, 1) := by decide +kernel
theorem dX4_wipe_17 : decode cX4_wipe 17 = .ok (.ireturn, 1) := by decide +kernel
theorem dX4_fault_0 : decode cX4_fault 0 = .ok (.aload_n 0, 1) := by decide +kernel
theorem dX4_fault_1 : decode cX4_fault 1 = .ok (.getfield 34, 3) := by decide +kernel
theorem dX4_fault_4 : decode cX4_fault 4 = .ok (.invokevirtual 218, 3) := by decide +kernel
theorem dX4_fault_7 : decode cX4_fault 7 = .ok (.ireturn, 1) := by decide +kernel
theorem dX4_carryOut_0 : decode cX4_carryOut 0 = .ok (.aload_n 0, 1) := by decide +kernel
theorem dX4_carryOut_1 : decode cX4_carryOut 1 = .ok (.getfield 34, 3) := by decide +kernel
theorem dX4_carryOut_4 : decode cX4_carryOut 4 = .ok (.invokevirtual 218, 3) := by decide +kernel
theorem dX4_carryOut_7 : decode cX4_carryOut 7 = .ok (.bipush (-6), 2) := by decide +kernel
theorem dX4_carryOut_9 : decode cX4_carryOut 9 = .ok (.if_icmp .eq 6, 3) := by decide +kernel
theorem dX4_carryOut_12 : decode cX4_carryOut 12 = .ok (.bipush (-3), 2) := by decide +kernel
theorem dX4_carryOut_14 : decode cX4_carryOut 14 = .ok (.ireturn, 1) := by decide +kernel
theorem dX4_carryOut_15 : decode cX4_carryOut 15 = .ok (.aload_n 0, 1) := by decide +kernel
theorem dX4_carryOut_16 : decode cX4_carryOut 16 = .ok (.getfield 19, 3) := by decide +kernel
theorem dX4_carryOut_19 : decode cX4_carryOut 19 = .ok (.aload_n 0, 1) := by decide +kernel
theorem dX4_carryOut_20 : decode cX4_carryOut 20 = .ok (.getfield 10, 3) := by decide +kernel
theorem dX4_carryOut_23 : decode cX4_carryOut 23 = .ok (.invokevirtual 44, 3) := by decide +kernel
theorem dX4_carryOut_26 : decode cX4_carryOut 26 = .ok (.aload_n 0, 1) := by decide +kernel
theorem dX4_carryOut_27 : decode cX4_carryOut 27 = .ok (.getfield 19, 3) := by decide +kernel
theorem dX4_carryOut_30 : decode cX4_carryOut 30 = .ok (.invokevirtual 221, 3) := by decide +kernel
theorem dX4_carryOut_33 : decode cX4_carryOut 33 = .ok (.aload_n 0, 1) := by decide +kernel
theorem dX4_carryOut_34 : decode cX4_carryOut 34 = .ok (.getfield 34, 3) := by decide +kernel
theorem dX4_carryOut_37 : decode cX4_carryOut 37 = .ok (.invokevirtual 224, 3) := by decide +kernel
theorem dX4_carryOut_40 : decode cX4_carryOut 40 = .ok (.iconst 0, 1) := by decide +kernel
theorem dX4_carryOut_41 : decode cX4_carryOut 41 = .ok (.istore_n 1, 1) := by decide +kernel
theorem dX4_carryOut_42 : decode cX4_carryOut 42 = .ok (.iload_n 1, 1) := by decide +kernel
theorem dX4_carryOut_43 : decode cX4_carryOut 43 = .ok (.bipush 80, 2) := by decide +kernel
theorem dX4_carryOut_45 : decode cX4_carryOut 45 = .ok (.if_icmp .ge 26, 3) := by decide +kernel
theorem dX4_carryOut_48 : decode cX4_carryOut 48 = .ok (.aload_n 0, 1) := by decide +kernel
theorem dX4_carryOut_49 : decode cX4_carryOut 49 = .ok (.getfield 34, 3) := by decide +kernel
theorem dX4_carryOut_52 : decode cX4_carryOut 52 = .ok (.invokevirtual 227, 3) := by decide +kernel
theorem dX4_carryOut_55 : decode cX4_carryOut 55 = .ok (.ifCond .eq 16, 3) := by decide +kernel
theorem dX4_carryOut_58 : decode cX4_carryOut 58 = .ok (.aload_n 0, 1) := by decide +kernel
theorem dX4_carryOut_59 : decode cX4_carryOut 59 = .ok (.invokevirtual 230, 3) := by decide +kernel
theorem dX4_carryOut_62 : decode cX4_carryOut 62 = .ok (.ifCond .lt 9, 3) := by decide +kernel
theorem dX4_carryOut_65 : decode cX4_carryOut 65 = .ok (.iinc 1 1, 3) := by decide +kernel
theorem dX4_carryOut_68 : decode cX4_carryOut 68 = .ok (.goto (-26), 3) := by decide +kernel
theorem dX4_carryOut_71 : decode cX4_carryOut 71 = .ok (.aload_n 0, 1) := by decide +kernel
theorem dX4_carryOut_72 : decode cX4_carryOut 72 = .ok (.getfield 34, 3) := by decide +kernel
theorem dX4_carryOut_75 : decode cX4_carryOut 75 = .ok (.iconst 0, 1) := by decide +kernel
theorem dX4_carryOut_76 : decode cX4_carryOut 76 = .ok (.putfield 169, 3) := by decide +kernel
theorem dX4_carryOut_79 : decode cX4_carryOut 79 = .ok (.iload_n 1, 1) := by decide +kernel
theorem dX4_carryOut_80 : decode cX4_carryOut 80 = .ok (.ireturn, 1) := by decide +kernel
theorem dX4_undo_0 : decode cX4_undo 0 = .ok (.aload_n 0, 1) := by decide +kernel
theorem dX4_undo_1 : decode cX4_undo 1 = .ok (.getfield 19, 3) := by decide +kernel
theorem dX4_undo_4 : decode cX4_undo 4 = .ok (.getfield 172, 3) := by decide +kernel
theorem dX4_undo_7 : decode cX4_undo 7 = .ok (.ifCond .ne 6, 3) := by decide +kernel
theorem dX4_undo_10 : decode cX4_undo 10 = .ok (.bipush (-5), 2) := by decide +kernel
theorem dX4_undo_12 : decode cX4_undo 12 = .ok (.ireturn, 1) := by decide +kernel
theorem dX4_undo_13 : decode cX4_undo 13 = .ok (.aload_n 0, 1) := by decide +kernel
theorem dX4_undo_14 : decode cX4_undo 14 = .ok (.getfield 19, 3) := by decide +kernel
theorem dX4_undo_17 : decode cX4_undo 17 = .ok (.aload_n 0, 1) := by decide +kernel
theorem dX4_undo_18 : decode cX4_undo 18 = .ok (.getfield 10, 3) := by decide +kernel
theorem dX4_undo_21 : decode cX4_undo 21 = .ok (.invokevirtual 233, 3) := by decide +kernel
theorem dX4_undo_24 : decode cX4_undo 24 = .ok (.aload_n 0, 1) := by decide +kernel
theorem dX4_undo_25 : decode cX4_undo 25 = .ok (.getfield 19, 3) := by decide +kernel
theorem dX4_undo_28 : decode cX4_undo 28 = .ok (.getfield 172, 3) := by decide +kernel
theorem dX4_undo_31 : decode cX4_undo 31 = .ok (.ireturn, 1) := by decide +kernel
theorem dX4_save_0 : decode cX4_save 0 = .ok (.iload_n 1, 1) := by decide +kernel
theorem dX4_save_1 : decode cX4_save 1 = .ok (.invokestatic 236, 3) := by decide +kernel
theorem dX4_save_4 : decode cX4_save 4 = .ok (.ifCond .ne 6, 3) := by decide +kernel
theorem dX4_save_7 : decode cX4_save 7 = .ok (.bipush (-2), 2) := by decide +kernel
theorem dX4_save_9 : decode cX4_save 9 = .ok (.ireturn, 1) := by decide +kernel
theorem dX4_save_10 : decode cX4_save 10 = .ok (.aload_n 0, 1) := by decide +kernel
theorem dX4_save_11 : decode cX4_save 11 = .ok (.getfield 23, 3) := by decide +kernel
theorem dX4_save_14 : decode cX4_save 14 = .ok (.iload_n 1, 1) := by decide +kernel
theorem dX4_save_15 : decode cX4_save 15 = .ok (.aaload, 1) := by decide +kernel
theorem dX4_save_16 : decode cX4_save 16 = .ok (.aload_n 0, 1) := by decide +kernel
theorem dX4_save_17 : decode cX4_save 17 = .ok (.getfield 10, 3) := by decide +kernel
theorem dX4_save_20 : decode cX4_save 20 = .ok (.invokevirtual 182, 3) := by decide +kernel
theorem dX4_save_23 : decode cX4_save 23 = .ok (.aload_n 0, 1) := by decide +kernel
theorem dX4_save_24 : decode cX4_save 24 = .ok (.getfield 27, 3) := by decide +kernel
theorem dX4_save_27 : decode cX4_save 27 = .ok (.iload_n 1, 1) := by decide +kernel
theorem dX4_save_28 : decode cX4_save 28 = .ok (.iconst 1, 1) := by decide +kernel
theorem dX4_save_29 : decode cX4_save 29 = .ok (.bastore, 1) := by decide +kernel
theorem dX4_save_30 : decode cX4_save 30 = .ok (.aload_n 0, 1) := by decide +kernel
theorem dX4_save_31 : decode cX4_save 31 = .ok (.getfield 10, 3) := by decide +kernel
theorem dX4_save_34 : decode cX4_save 34 = .ok (.getfield 142, 3) := by decide +kernel
theorem dX4_save_37 : decode cX4_save 37 = .ok (.ireturn, 1) := by decide +kernel
theorem dX4_restore_0 : decode cX4_restore 0 = .ok (.iload_n 1, 1) := by decide +kernel
theorem dX4_restore_1 : decode cX4_restore 1 = .ok (.invokestatic 236, 3) := by decide +kernel
theorem dX4_restore_4 : decode cX4_restore 4 = .ok (.ifCond .ne 6, 3) := by decide +kernel
theorem dX4_restore_7 : decode cX4_restore 7 = .ok (.bipush (-2), 2) := by decide +kernel
theorem dX4_restore_9 : decode cX4_restore 9 = .ok (.ireturn, 1) := by decide +kernel
theorem dX4_restore_10 : decode cX4_restore 10 = .ok (.aload_n 0, 1) := by decide +kernel
theorem dX4_restore_11 : decode cX4_restore 11 = .ok (.getfield 27, 3) := by decide +kernel
theorem dX4_restore_14 : decode cX4_restore 14 = .ok (.iload_n 1, 1) := by decide +kernel
theorem dX4_restore_15 : decode cX4_restore 15 = .ok (.baload, 1) := by decide +kernel
theorem dX4_restore_16 : decode cX4_restore 16 = .ok (.ifCond .ne 6, 3) := by decide +kernel
theorem dX4_restore_19 : decode cX4_restore 19 = .ok (.bipush (-5), 2) := by decide +kernel
theorem dX4_restore_21 : decode cX4_restore 21 = .ok (.ireturn, 1) := by decide +kernel
theorem dX4_restore_22 : decode cX4_restore 22 = .ok (.aload_n 0, 1) := by decide +kernel
theorem dX4_restore_23 : decode cX4_restore 23 = .ok (.getfield 19, 3) := by decide +kernel
theorem dX4_restore_26 : decode cX4_restore 26 = .ok (.aload_n 0, 1) := by decide +kernel
theorem dX4_restore_27 : decode cX4_restore 27 = .ok (.getfield 10, 3) := by decide +kernel
theorem dX4_restore_30 : decode cX4_restore 30 = .ok (.invokevirtual 44, 3) := by decide +kernel
theorem dX4_restore_33 : decode cX4_restore 33 = .ok (.aload_n 0, 1) := by decide +kernel
theorem dX4_restore_34 : decode cX4_restore 34 = .ok (.getfield 10, 3) := by decide +kernel
theorem dX4_restore_37 : decode cX4_restore 37 = .ok (.aload_n 0, 1) := by decide +kernel
theorem dX4_restore_38 : decode cX4_restore 38 = .ok (.getfield 23, 3) := by decide +kernel
theorem dX4_restore_41 : decode cX4_restore 41 = .ok (.iload_n 1, 1) := by decide +kernel
theorem dX4_restore_42 : decode cX4_restore 42 = .ok (.aaload, 1) := by decide +kernel
theorem dX4_restore_43 : decode cX4_restore 43 = .ok (.invokevirtual 182, 3) := by decide +kernel
theorem dX4_restore_46 : decode cX4_restore 46 = .ok (.aload_n 0, 1) := by decide +kernel
theorem dX4_restore_47 : decode cX4_restore 47 = .ok (.aload_n 0, 1) := by decide +kernel
theorem dX4_restore_48 : decode cX4_restore 48 = .ok (.getfield 10, 3) := by decide +kernel
theorem dX4_restore_51 : decode cX4_restore 51 = .ok (.getfield 142, 3) := by decide +kernel
theorem dX4_restore_54 : decode cX4_restore 54 = .ok (.invokevirtual 52, 3) := by decide +kernel
theorem dX4_restore_57 : decode cX4_restore 57 = .ok (.ireturn, 1) := by decide +kernel
theorem dX4_recorded_0 : decode cX4_recorded 0 = .ok (.iload_n 1, 1) := by decide +kernel
theorem dX4_recorded_1 : decode cX4_recorded 1 = .ok (.ifCond .lt 10, 3) := by decide +kernel
theorem dX4_recorded_4 : decode cX4_recorded 4 = .ok (.aload_n 0, 1) := by decide +kernel
theorem dX4_recorded_5 : decode cX4_recorded 5 = .ok (.getfield 19, 3) := by decide +kernel
theorem dX4_recorded_8 : decode cX4_recorded 8 = .ok (.invokevirtual 221, 3) := by decide +kernel
theorem dX4_recorded_11 : decode cX4_recorded 11 = .ok (.iload_n 1, 1) := by decide +kernel
theorem dX4_recorded_12 : decode cX4_recorded 12 = .ok (.ireturn, 1) := by decide +kernel
theorem dX4_carryOutOrder_0 : decode cX4_carryOutOrder 0 = .ok (.aload_n 0, 1) := by decide +kernel
theorem dX4_carryOutOrder_1 : decode cX4_carryOutOrder 1 = .ok (.getfield 34, 3) := by decide +kernel
theorem dX4_carryOutOrder_4 : decode cX4_carryOutOrder 4 = .ok (.getfield 239, 3) := by decide +kernel
theorem dX4_carryOutOrder_7 : decode cX4_carryOutOrder 7 = .ok (.lookupswitch 136 #[(103, 63), (115, 41), (118, 107), (119, 85)], 41) := by decide +kernel
theorem dX4_carryOutOrder_48 : decode cX4_carryOutOrder 48 = .ok (.aload_n 0, 1) := by decide +kernel
theorem dX4_carryOutOrder_49 : decode cX4_carryOutOrder 49 = .ok (.getfield 10, 3) := by decide +kernel
theorem dX4_carryOutOrder_52 : decode cX4_carryOutOrder 52 = .ok (.aload_n 0, 1) := by decide +kernel
theorem dX4_carryOutOrder_53 : decode cX4_carryOutOrder 53 = .ok (.getfield 34, 3) := by decide +kernel
theorem dX4_carryOutOrder_56 : decode cX4_carryOutOrder 56 = .ok (.getfield 243, 3) := by decide +kernel
theorem dX4_carryOutOrder_59 : decode cX4_carryOutOrder 59 = .ok (.aload_n 0, 1) := by decide +kernel
theorem dX4_carryOutOrder_60 : decode cX4_carryOutOrder 60 = .ok (.getfield 34, 3) := by decide +kernel
theorem dX4_carryOutOrder_63 : decode cX4_carryOutOrder 63 = .ok (.getfield 246, 3) := by decide +kernel
theorem dX4_carryOutOrder_66 : decode cX4_carryOutOrder 66 = .ok (.invokevirtual 63, 3) := by decide +kernel
theorem dX4_carryOutOrder_69 : decode cX4_carryOutOrder 69 = .ok (.ireturn, 1) := by decide +kernel
theorem dX4_carryOutOrder_70 : decode cX4_carryOutOrder 70 = .ok (.aload_n 0, 1) := by decide +kernel
theorem dX4_carryOutOrder_71 : decode cX4_carryOutOrder 71 = .ok (.getfield 10, 3) := by decide +kernel
theorem dX4_carryOutOrder_74 : decode cX4_carryOutOrder 74 = .ok (.aload_n 0, 1) := by decide +kernel
theorem dX4_carryOutOrder_75 : decode cX4_carryOutOrder 75 = .ok (.getfield 34, 3) := by decide +kernel
theorem dX4_carryOutOrder_78 : decode cX4_carryOutOrder 78 = .ok (.getfield 243, 3) := by decide +kernel
theorem dX4_carryOutOrder_81 : decode cX4_carryOutOrder 81 = .ok (.aload_n 0, 1) := by decide +kernel
theorem dX4_carryOutOrder_82 : decode cX4_carryOutOrder 82 = .ok (.getfield 34, 3) := by decide +kernel
theorem dX4_carryOutOrder_85 : decode cX4_carryOutOrder 85 = .ok (.getfield 246, 3) := by decide +kernel
theorem dX4_carryOutOrder_88 : decode cX4_carryOutOrder 88 = .ok (.invokevirtual 66, 3) := by decide +kernel
theorem dX4_carryOutOrder_91 : decode cX4_carryOutOrder 91 = .ok (.ireturn, 1) := by decide +kernel
theorem dX4_carryOutOrder_92 : decode cX4_carryOutOrder 92 = .ok (.aload_n 0, 1) := by decide +kernel
theorem dX4_carryOutOrder_93 : decode cX4_carryOutOrder 93 = .ok (.getfield 10, 3) := by decide +kernel
theorem dX4_carryOutOrder_96 : decode cX4_carryOutOrder 96 = .ok (.aload_n 0, 1) := by decide +kernel
theorem dX4_carryOutOrder_97 : decode cX4_carryOutOrder 97 = .ok (.getfield 34, 3) := by decide +kernel
theorem dX4_carryOutOrder_100 : decode cX4_carryOutOrder 100 = .ok (.getfield 243, 3) := by decide +kernel
theorem dX4_carryOutOrder_103 : decode cX4_carryOutOrder 103 = .ok (.aload_n 0, 1) := by decide +kernel
theorem dX4_carryOutOrder_104 : decode cX4_carryOutOrder 104 = .ok (.getfield 34, 3) := by decide +kernel
theorem dX4_carryOutOrder_107 : decode cX4_carryOutOrder 107 = .ok (.getfield 246, 3) := by decide +kernel
theorem dX4_carryOutOrder_110 : decode cX4_carryOutOrder 110 = .ok (.invokevirtual 60, 3) := by decide +kernel
theorem dX4_carryOutOrder_113 : decode cX4_carryOutOrder 113 = .ok (.ireturn, 1) := by decide +kernel
theorem dX4_carryOutOrder_114 : decode cX4_carryOutOrder 114 = .ok (.aload_n 0, 1) := by decide +kernel
theorem dX4_carryOutOrder_115 : decode cX4_carryOutOrder 115 = .ok (.getfield 10, 3) := by decide +kernel
theorem dX4_carryOutOrder_118 : decode cX4_carryOutOrder 118 = .ok (.aload_n 0, 1) := by decide +kernel
theorem dX4_carryOutOrder_119 : decode cX4_carryOutOrder 119 = .ok (.getfield 34, 3) := by decide +kernel
theorem dX4_carryOutOrder_122 : decode cX4_carryOutOrder 122 = .ok (.getfield 243, 3) := by decide +kernel
theorem dX4_carryOutOrder_125 : decode cX4_carryOutOrder 125 = .ok (.aload_n 0, 1) := by decide +kernel
theorem dX4_carryOutOrder_126 : decode cX4_carryOutOrder 126 = .ok (.getfield 34, 3) := by decide +kernel
theorem dX4_carryOutOrder_129 : decode cX4_carryOutOrder 129 = .ok (.getfield 246, 3) := by decide +kernel
theorem dX4_carryOutOrder_132 : decode cX4_carryOutOrder 132 = .ok (.aload_n 0, 1) := by decide +kernel
theorem dX4_carryOutOrder_133 : decode cX4_carryOutOrder 133 = .ok (.getfield 34, 3) := by decide +kernel
theorem dX4_carryOutOrder_136 : decode cX4_carryOutOrder 136 = .ok (.getfield 249, 3) := by decide +kernel
theorem dX4_carryOutOrder_139 : decode cX4_carryOutOrder 139 = .ok (.invokevirtual 56, 3) := by decide +kernel
theorem dX4_carryOutOrder_142 : decode cX4_carryOutOrder 142 = .ok (.ireturn, 1) := by decide +kernel
theorem dX4_carryOutOrder_143 : decode cX4_carryOutOrder 143 = .ok (.aload_n 0, 1) := by decide +kernel
theorem dX4_carryOutOrder_144 : decode cX4_carryOutOrder 144 = .ok (.getfield 10, 3) := by decide +kernel
theorem dX4_carryOutOrder_147 : decode cX4_carryOutOrder 147 = .ok (.aload_n 0, 1) := by decide +kernel
theorem dX4_carryOutOrder_148 : decode cX4_carryOutOrder 148 = .ok (.getfield 34, 3) := by decide +kernel
theorem dX4_carryOutOrder_151 : decode cX4_carryOutOrder 151 = .ok (.getfield 246, 3) := by decide +kernel
theorem dX4_carryOutOrder_154 : decode cX4_carryOutOrder 154 = .ok (.invokevirtual 69, 3) := by decide +kernel
theorem dX4_carryOutOrder_157 : decode cX4_carryOutOrder 157 = .ok (.ireturn, 1) := by decide +kernel
theorem dX4_errorOfQuestion_0 : decode cX4_errorOfQuestion 0 = .ok (.iload_n 1, 1) := by decide +kernel
theorem dX4_errorOfQuestion_1 : decode cX4_errorOfQuestion 1 = .ok (.invokestatic 72, 3) := by decide +kernel
theorem dX4_errorOfQuestion_4 : decode cX4_errorOfQuestion 4 = .ok (.ifCond .ne 5, 3) := by decide +kernel
theorem dX4_errorOfQuestion_7 : decode cX4_errorOfQuestion 7 = .ok (.iconst (-1), 1) := by decide +kernel
theorem dX4_errorOfQuestion_8 : decode cX4_errorOfQuestion 8 = .ok (.ireturn, 1) := by decide +kernel
theorem dX4_errorOfQuestion_9 : decode cX4_errorOfQuestion 9 = .ok (.iload_n 2, 1) := by decide +kernel
theorem dX4_errorOfQuestion_10 : decode cX4_errorOfQuestion 10 = .ok (.invokestatic 252, 3) := by decide +kernel
theorem dX4_errorOfQuestion_13 : decode cX4_errorOfQuestion 13 = .ok (.ifCond .eq 7, 3) := by decide +kernel
theorem dX4_errorOfQuestion_16 : decode cX4_errorOfQuestion 16 = .ok (.iconst 0, 1) := by decide +kernel
theorem dX4_errorOfQuestion_17 : decode cX4_errorOfQuestion 17 = .ok (.goto 5, 3) := by decide +kernel
theorem dX4_errorOfQuestion_20 : decode cX4_errorOfQuestion 20 = .ok (.bipush (-2), 2) := by decide +kernel
theorem dX4_errorOfQuestion_22 : decode cX4_errorOfQuestion 22 = .ok (.ireturn, 1) := by decide +kernel
theorem dX4_tryMinutes_0 : decode cX4_tryMinutes 0 = .ok (.aload_n 0, 1) := by decide +kernel
theorem dX4_tryMinutes_1 : decode cX4_tryMinutes 1 = .ok (.getfield 38, 3) := by decide +kernel
theorem dX4_tryMinutes_4 : decode cX4_tryMinutes 4 = .ok (.aload_n 0, 1) := by decide +kernel
theorem dX4_tryMinutes_5 : decode cX4_tryMinutes 5 = .ok (.getfield 10, 3) := by decide +kernel
theorem dX4_tryMinutes_8 : decode cX4_tryMinutes 8 = .ok (.invokevirtual 182, 3) := by decide +kernel
theorem dX4_tryMinutes_11 : decode cX4_tryMinutes 11 = .ok (.aload_n 0, 1) := by decide +kernel
theorem dX4_tryMinutes_12 : decode cX4_tryMinutes 12 = .ok (.getfield 38, 3) := by decide +kernel
theorem dX4_tryMinutes_15 : decode cX4_tryMinutes 15 = .ok (.iload_n 1, 1) := by decide +kernel
theorem dX4_tryMinutes_16 : decode cX4_tryMinutes 16 = .ok (.invokevirtual 69, 3) := by decide +kernel
theorem dX4_tryMinutes_19 : decode cX4_tryMinutes 19 = .ok (.pop, 1) := by decide +kernel
theorem dX4_tryMinutes_20 : decode cX4_tryMinutes 20 = .ok (.return_, 1) := by decide +kernel
theorem dX4_isDrive_0 : decode cX4_isDrive 0 = .ok (.iload_n 0, 1) := by decide +kernel
theorem dX4_isDrive_1 : decode cX4_isDrive 1 = .ok (.ifCond .lt 12, 3) := by decide +kernel
theorem dX4_isDrive_4 : decode cX4_isDrive 4 = .ok (.iload_n 0, 1) := by decide +kernel
theorem dX4_isDrive_5 : decode cX4_isDrive 5 = .ok (.iconst 4, 1) := by decide +kernel
theorem dX4_isDrive_6 : decode cX4_isDrive 6 = .ok (.if_icmp .ge 7, 3) := by decide +kernel
theorem dX4_isDrive_9 : decode cX4_isDrive 9 = .ok (.iconst 1, 1) := by decide +kernel
theorem dX4_isDrive_10 : decode cX4_isDrive 10 = .ok (.goto 4, 3) := by decide +kernel
theorem dX4_isDrive_13 : decode cX4_isDrive 13 = .ok (.iconst 0, 1) := by decide +kernel
theorem dX4_isDrive_14 : decode cX4_isDrive 14 = .ok (.ireturn, 1) := by decide +kernel
theorem dX4_twinOf_0 : decode cX4_twinOf 0 = .ok (.iload_n 0, 1) := by decide +kernel
theorem dX4_twinOf_1 : decode cX4_twinOf 1 = .ok (.iconst 2, 1) := by decide +kernel
theorem dX4_twinOf_2 : decode cX4_twinOf 2 = .ok (.irem, 1) := by decide +kernel
theorem dX4_twinOf_3 : decode cX4_twinOf 3 = .ok (.ifCond .ne 9, 3) := by decide +kernel
theorem dX4_twinOf_6 : decode cX4_twinOf 6 = .ok (.iload_n 0, 1) := by decide +kernel
theorem dX4_twinOf_7 : decode cX4_twinOf 7 = .ok (.iconst 1, 1) := by decide +kernel
theorem dX4_twinOf_8 : decode cX4_twinOf 8 = .ok (.iadd, 1) := by decide +kernel
theorem dX4_twinOf_9 : decode cX4_twinOf 9 = .ok (.goto 6, 3) := by decide +kernel
theorem dX4_twinOf_12 : decode cX4_twinOf 12 = .ok (.iload_n 0, 1) := by decide +kernel
theorem dX4_twinOf_13 : decode cX4_twinOf 13 = .ok (.iconst 1, 1) := by decide +kernel
theorem dX4_twinOf_14 : decode cX4_twinOf 14 = .ok (.isub, 1) := by decide +kernel
theorem dX4_twinOf_15 : decode cX4_twinOf 15 = .ok (.ireturn, 1) := by decide +kernel
theorem dX4_isHour_0 : decode cX4_isHour 0 = .ok (.iload_n 0, 1) := by decide +kernel
theorem dX4_isHour_1 : decode cX4_isHour 1 = .ok (.ifCond .lt 13, 3) := by decide +kernel
theorem dX4_isHour_4 : decode cX4_isHour 4 = .ok (.iload_n 0, 1) := by decide +kernel
theorem dX4_isHour_5 : decode cX4_isHour 5 = .ok (.bipush 100, 2) := by decide +kernel
theorem dX4_isHour_7 : decode cX4_isHour 7 = .ok (.if_icmp .ge 7, 3) := by decide +kernel
theorem dX4_isHour_10 : decode cX4_isHour 10 = .ok (.iconst 1, 1) := by decide +kernel
theorem dX4_isHour_11 : decode cX4_isHour 11 = .ok (.goto 4, 3) := by decide +kernel
theorem dX4_isHour_14 : decode cX4_isHour 14 = .ok (.iconst 0, 1) := by decide +kernel
theorem dX4_isHour_15 : decode cX4_isHour 15 = .ok (.ireturn, 1) := by decide +kernel
theorem dX4_isSlot_0 : decode cX4_isSlot 0 = .ok (.iload_n 0, 1) := by decide +kernel
theorem dX4_isSlot_1 : decode cX4_isSlot 1 = .ok (.ifCond .lt 12, 3) := by decide +kernel
theorem dX4_isSlot_4 : decode cX4_isSlot 4 = .ok (.iload_n 0, 1) := by decide +kernel
theorem dX4_isSlot_5 : decode cX4_isSlot 5 = .ok (.iconst 2, 1) := by decide +kernel
theorem dX4_isSlot_6 : decode cX4_isSlot 6 = .ok (.if_icmp .ge 7, 3) := by decide +kernel
theorem dX4_isSlot_9 : decode cX4_isSlot 9 = .ok (.iconst 1, 1) := by decide +kernel
theorem dX4_isSlot_10 : decode cX4_isSlot 10 = .ok (.goto 4, 3) := by decide +kernel
theorem dX4_isSlot_13 : decode cX4_isSlot 13 = .ok (.iconst 0, 1) := by decide +kernel
theorem dX4_isSlot_14 : decode cX4_isSlot 14 = .ok (.ireturn, 1) := by decide +kernel
theorem dX4_arePassable_0 : decode cX4_arePassable 0 = .ok (.iload_n 0, 1) := by decide +kernel
theorem dX4_arePassable_1 : decode cX4_arePassable 1 = .ok (.iconst 1, 1) := by decide +kernel
theorem dX4_arePassable_2 : decode cX4_arePassable 2 = .ok (.if_icmp .lt 14, 3) := by decide +kernel
theorem dX4_arePassable_5 : decode cX4_arePassable 5 = .ok (.iload_n 0, 1) := by decide +kernel
theorem dX4_arePassable_6 : decode cX4_arePassable 6 = .ok (.sipush 600, 3) := by decide +kernel
theorem dX4_arePassable_9 : decode cX4_arePassable 9 = .ok (.if_icmp .gt 7, 3) := by decide +kernel
theorem dX4_arePassable_12 : decode cX4_arePassable 12 = .ok (.iconst 1, 1) := by decide +kernel
theorem dX4_arePassable_13 : decode cX4_arePassable 13 = .ok (.goto 4, 3) := by decide +kernel
theorem dX4_arePassable_16 : decode cX4_arePassable 16 = .ok (.iconst 0, 1) := by decide +kernel
theorem dX4_arePassable_17 : decode cX4_arePassable 17 = .ok (.ireturn, 1) := by decide +kernel
theorem dX4_signsIn_0 : decode cX4_signsIn 0 = .ok (.lload_n 0, 1) := by decide +kernel
theorem dX4_signsIn_1 : decode cX4_signsIn 1 = .ok (.lstore_n 2, 1) := by decide +kernel
theorem dX4_signsIn_2 : decode cX4_signsIn 2 = .ok (.iconst 0, 1) := by decide +kernel
theorem dX4_signsIn_3 : decode cX4_signsIn 3 = .ok (.istore 4, 2) := by decide +kernel
theorem dX4_signsIn_5 : decode cX4_signsIn 5 = .ok (.lload_n 2, 1) := by decide +kernel
theorem dX4_signsIn_6 : decode cX4_signsIn 6 = .ok (.lconst 0, 1) := by decide +kernel
theorem dX4_signsIn_7 : decode cX4_signsIn 7 = .ok (.lcmp, 1) := by decide +kernel
theorem dX4_signsIn_8 : decode cX4_signsIn 8 = .ok (.ifCond .eq 48, 3) := by decide +kernel
theorem dX4_signsIn_11 : decode cX4_signsIn 11 = .ok (.iload 4, 2) := by decide +kernel
theorem dX4_signsIn_13 : decode cX4_signsIn 13 = .ok (.bipush 8, 2) := by decide +kernel
theorem dX4_signsIn_15 : decode cX4_signsIn 15 = .ok (.if_icmp .ge 41, 3) := by decide +kernel
theorem dX4_signsIn_18 : decode cX4_signsIn 18 = .ok (.lload_n 2, 1) := by decide +kernel
theorem dX4_signsIn_19 : decode cX4_signsIn 19 = .ok (.ldc2_w 255, 3) := by decide +kernel
theorem dX4_signsIn_22 : decode cX4_signsIn 22 = .ok (.land, 1) := by decide +kernel
theorem dX4_signsIn_23 : decode cX4_signsIn 23 = .ok (.lstore 5, 2) := by decide +kernel
theorem dX4_signsIn_25 : decode cX4_signsIn 25 = .ok (.lload 5, 2) := by decide +kernel
theorem dX4_signsIn_27 : decode cX4_signsIn 27 = .ok (.ldc2_w 257, 3) := by decide +kernel
theorem dX4_signsIn_30 : decode cX4_signsIn 30 = .ok (.lcmp, 1) := by decide +kernel
theorem dX4_signsIn_31 : decode cX4_signsIn 31 = .ok (.ifCond .lt 12, 3) := by decide +kernel
theorem dX4_signsIn_34 : decode cX4_signsIn 34 = .ok (.lload 5, 2) := by decide +kernel
theorem dX4_signsIn_36 : decode cX4_signsIn 36 = .ok (.ldc2_w 259, 3) := by decide +kernel
theorem dX4_signsIn_39 : decode cX4_signsIn 39 = .ok (.lcmp, 1) := by decide +kernel
theorem dX4_signsIn_40 : decode cX4_signsIn 40 = .ok (.ifCond .le 5, 3) := by decide +kernel
theorem dX4_signsIn_43 : decode cX4_signsIn 43 = .ok (.iconst 0, 1) := by decide +kernel
theorem dX4_signsIn_44 : decode cX4_signsIn 44 = .ok (.ireturn, 1) := by decide +kernel
theorem dX4_signsIn_45 : decode cX4_signsIn 45 = .ok (.lload_n 2, 1) := by decide +kernel
theorem dX4_signsIn_46 : decode cX4_signsIn 46 = .ok (.bipush 8, 2) := by decide +kernel
theorem dX4_signsIn_48 : decode cX4_signsIn 48 = .ok (.lushr, 1) := by decide +kernel
theorem dX4_signsIn_49 : decode cX4_signsIn 49 = .ok (.lstore_n 2, 1) := by decide +kernel
theorem dX4_signsIn_50 : decode cX4_signsIn 50 = .ok (.iinc 4 1, 3) := by decide +kernel
theorem dX4_signsIn_53 : decode cX4_signsIn 53 = .ok (.goto (-48), 3) := by decide +kernel
theorem dX4_signsIn_56 : decode cX4_signsIn 56 = .ok (.iload 4, 2) := by decide +kernel
theorem dX4_signsIn_58 : decode cX4_signsIn 58 = .ok (.ireturn, 1) := by decide +kernel
theorem dX4_doubleBits_0 : decode cX4_doubleBits 0 = .ok (.dload_n 0, 1) := by decide +kernel
theorem dX4_doubleBits_1 : decode cX4_doubleBits 1 = .ok (.dconst 0, 1) := by decide +kernel
theorem dX4_doubleBits_2 : decode cX4_doubleBits 2 = .ok (.dcmp .l, 1) := by decide +kernel
theorem dX4_doubleBits_3 : decode cX4_doubleBits 3 = .ok (.ifCond .gt 5, 3) := by decide +kernel
theorem dX4_doubleBits_6 : decode cX4_doubleBits 6 = .ok (.lconst 0, 1) := by decide +kernel
theorem dX4_doubleBits_7 : decode cX4_doubleBits 7 = .ok (.lreturn, 1) := by decide +kernel
theorem dX4_doubleBits_8 : decode cX4_doubleBits 8 = .ok (.dload_n 0, 1) := by decide +kernel
theorem dX4_doubleBits_9 : decode cX4_doubleBits 9 = .ok (.dstore_n 2, 1) := by decide +kernel
theorem dX4_doubleBits_10 : decode cX4_doubleBits 10 = .ok (.iconst 0, 1) := by decide +kernel
theorem dX4_doubleBits_11 : decode cX4_doubleBits 11 = .ok (.istore 4, 2) := by decide +kernel
theorem dX4_doubleBits_13 : decode cX4_doubleBits 13 = .ok (.dload_n 2, 1) := by decide +kernel
theorem dX4_doubleBits_14 : decode cX4_doubleBits 14 = .ok (.ldc2_w 261, 3) := by decide +kernel
theorem dX4_doubleBits_17 : decode cX4_doubleBits 17 = .ok (.dcmp .l, 1) := by decide +kernel
theorem dX4_doubleBits_18 : decode cX4_doubleBits 18 = .ok (.ifCond .lt 23, 3) := by decide +kernel
theorem dX4_doubleBits_21 : decode cX4_doubleBits 21 = .ok (.iload 4, 2) := by decide +kernel
theorem dX4_doubleBits_23 : decode cX4_doubleBits 23 = .ok (.sipush 1023, 3) := by decide +kernel
theorem dX4_doubleBits_26 : decode cX4_doubleBits 26 = .ok (.if_icmp .ge 15, 3) := by decide +kernel
theorem dX4_doubleBits_29 : decode cX4_doubleBits 29 = .ok (.dload_n 2, 1) := by decide +kernel
theorem dX4_doubleBits_30 : decode cX4_doubleBits 30 = .ok (.ldc2_w 261, 3) := by decide +kernel
theorem dX4_doubleBits_33 : decode cX4_doubleBits 33 = .ok (.ddiv, 1) := by decide +kernel
theorem dX4_doubleBits_34 : decode cX4_doubleBits 34 = .ok (.dstore_n 2, 1) := by decide +kernel
theorem dX4_doubleBits_35 : decode cX4_doubleBits 35 = .ok (.iinc 4 1, 3) := by decide +kernel
theorem dX4_doubleBits_38 : decode cX4_doubleBits 38 = .ok (.goto (-25), 3) := by decide +kernel
theorem dX4_doubleBits_41 : decode cX4_doubleBits 41 = .ok (.dload_n 2, 1) := by decide +kernel
theorem dX4_doubleBits_42 : decode cX4_doubleBits 42 = .ok (.dconst 1, 1) := by decide +kernel
theorem dX4_doubleBits_43 : decode cX4_doubleBits 43 = .ok (.dcmp .g, 1) := by decide +kernel
theorem dX4_doubleBits_44 : decode cX4_doubleBits 44 = .ok (.ifCond .ge 23, 3) := by decide +kernel
theorem dX4_doubleBits_47 : decode cX4_doubleBits 47 = .ok (.iload 4, 2) := by decide +kernel
theorem dX4_doubleBits_49 : decode cX4_doubleBits 49 = .ok (.sipush (-1022), 3) := by decide +kernel
theorem dX4_doubleBits_52 : decode cX4_doubleBits 52 = .ok (.if_icmp .le 15, 3) := by decide +kernel
theorem dX4_doubleBits_55 : decode cX4_doubleBits 55 = .ok (.dload_n 2, 1) := by decide +kernel
theorem dX4_doubleBits_56 : decode cX4_doubleBits 56 = .ok (.ldc2_w 261, 3) := by decide +kernel
theorem dX4_doubleBits_59 : decode cX4_doubleBits 59 = .ok (.dmul, 1) := by decide +kernel
theorem dX4_doubleBits_60 : decode cX4_doubleBits 60 = .ok (.dstore_n 2, 1) := by decide +kernel
theorem dX4_doubleBits_61 : decode cX4_doubleBits 61 = .ok (.iinc 4 (-1), 3) := by decide +kernel
theorem dX4_doubleBits_64 : decode cX4_doubleBits 64 = .ok (.goto (-23), 3) := by decide +kernel
theorem dX4_doubleBits_67 : decode cX4_doubleBits 67 = .ok (.dload_n 2, 1) := by decide +kernel
theorem dX4_doubleBits_68 : decode cX4_doubleBits 68 = .ok (.dconst 1, 1) := by decide +kernel
theorem dX4_doubleBits_69 : decode cX4_doubleBits 69 = .ok (.dsub, 1) := by decide +kernel
theorem dX4_doubleBits_70 : decode cX4_doubleBits 70 = .ok (.ldc2_w 263, 3) := by decide +kernel
theorem dX4_doubleBits_73 : decode cX4_doubleBits 73 = .ok (.dmul, 1) := by decide +kernel
theorem dX4_doubleBits_74 : decode cX4_doubleBits 74 = .ok (.d2l, 1) := by decide +kernel
theorem dX4_doubleBits_75 : decode cX4_doubleBits 75 = .ok (.lstore 5, 2) := by decide +kernel
theorem dX4_doubleBits_77 : decode cX4_doubleBits 77 = .ok (.iload 4, 2) := by decide +kernel
theorem dX4_doubleBits_79 : decode cX4_doubleBits 79 = .ok (.sipush 1023, 3) := by decide +kernel
theorem dX4_doubleBits_82 : decode cX4_doubleBits 82 = .ok (.iadd, 1) := by decide +kernel
theorem dX4_doubleBits_83 : decode cX4_doubleBits 83 = .ok (.i2l, 1) := by decide +kernel
theorem dX4_doubleBits_84 : decode cX4_doubleBits 84 = .ok (.bipush 52, 2) := by decide +kernel
theorem dX4_doubleBits_86 : decode cX4_doubleBits 86 = .ok (.lshl, 1) := by decide +kernel
theorem dX4_doubleBits_87 : decode cX4_doubleBits 87 = .ok (.lload 5, 2) := by decide +kernel
theorem dX4_doubleBits_89 : decode cX4_doubleBits 89 = .ok (.ladd, 1) := by decide +kernel
theorem dX4_doubleBits_90 : decode cX4_doubleBits 90 = .ok (.lreturn, 1) := by decide +kernel
theorem dX4_floatBits_0 : decode cX4_floatBits 0 = .ok (.fload_n 0, 1) := by decide +kernel
theorem dX4_floatBits_1 : decode cX4_floatBits 1 = .ok (.f2d, 1) := by decide +kernel
theorem dX4_floatBits_2 : decode cX4_floatBits 2 = .ok (.invokestatic 149, 3) := by decide +kernel
theorem dX4_floatBits_5 : decode cX4_floatBits 5 = .ok (.lstore_n 1, 1) := by decide +kernel
theorem dX4_floatBits_6 : decode cX4_floatBits 6 = .ok (.lload_n 1, 1) := by decide +kernel
theorem dX4_floatBits_7 : decode cX4_floatBits 7 = .ok (.lconst 0, 1) := by decide +kernel
theorem dX4_floatBits_8 : decode cX4_floatBits 8 = .ok (.lcmp, 1) := by decide +kernel
theorem dX4_floatBits_9 : decode cX4_floatBits 9 = .ok (.ifCond .ne 5, 3) := by decide +kernel
theorem dX4_floatBits_12 : decode cX4_floatBits 12 = .ok (.iconst 0, 1) := by decide +kernel
theorem dX4_floatBits_13 : decode cX4_floatBits 13 = .ok (.ireturn, 1) := by decide +kernel
theorem dX4_floatBits_14 : decode cX4_floatBits 14 = .ok (.lload_n 1, 1) := by decide +kernel
theorem dX4_floatBits_15 : decode cX4_floatBits 15 = .ok (.bipush 29, 2) := by decide +kernel
theorem dX4_floatBits_17 : decode cX4_floatBits 17 = .ok (.lushr, 1) := by decide +kernel
theorem dX4_floatBits_18 : decode cX4_floatBits 18 = .ok (.lstore_n 3, 1) := by decide +kernel
theorem dX4_floatBits_19 : decode cX4_floatBits 19 = .ok (.lload_n 3, 1) := by decide +kernel
theorem dX4_floatBits_20 : decode cX4_floatBits 20 = .ok (.ldc2_w 265, 3) := by decide +kernel
theorem dX4_floatBits_23 : decode cX4_floatBits 23 = .ok (.lsub, 1) := by decide +kernel
theorem dX4_floatBits_24 : decode cX4_floatBits 24 = .ok (.l2i, 1) := by decide +kernel
theorem dX4_floatBits_25 : decode cX4_floatBits 25 = .ok (.ireturn, 1) := by decide +kernel
theorem dX5_init_0 : decode cX5_init 0 = .ok (.aload_n 0, 1) := by decide +kernel
theorem dX5_init_1 : decode cX5_init 1 = .ok (.invokespecial 1, 3) := by decide +kernel
theorem dX5_init_4 : decode cX5_init 4 = .ok (.aload_n 0, 1) := by decide +kernel
theorem dX5_init_5 : decode cX5_init 5 = .ok (.sipush 456, 3) := by decide +kernel
theorem dX5_init_8 : decode cX5_init 8 = .ok (.newarray .long, 2) := by decide +kernel
theorem dX5_init_10 : decode cX5_init 10 = .ok (.putfield 7, 3) := by decide +kernel
theorem dX5_init_13 : decode cX5_init 13 = .ok (.aload_n 0, 1) := by decide +kernel
theorem dX5_init_14 : decode cX5_init 14 = .ok (.sipush 456, 3) := by decide +kernel
theorem dX5_init_17 : decode cX5_init 17 = .ok (.newarray .long, 2) := by decide +kernel
theorem dX5_init_19 : decode cX5_init 19 = .ok (.putfield 13, 3) := by decide +kernel
theorem dX5_init_22 : decode cX5_init 22 = .ok (.aload_n 0, 1) := by decide +kernel
theorem dX5_init_23 : decode cX5_init 23 = .ok (.sipush 2736, 3) := by decide +kernel
theorem dX5_init_26 : decode cX5_init 26 = .ok (.newarray .long, 2) := by decide +kernel
theorem dX5_init_28 : decode cX5_init 28 = .ok (.putfield 16, 3) := by decide +kernel
theorem dX5_init_31 : decode cX5_init 31 = .ok (.aload_n 0, 1) := by decide +kernel
theorem dX5_init_32 : decode cX5_init 32 = .ok (.sipush 912, 3) := by decide +kernel
theorem dX5_init_35 : decode cX5_init 35 = .ok (.newarray .long, 2) := by decide +kernel
theorem dX5_init_37 : decode cX5_init 37 = .ok (.putfield 19, 3) := by decide +kernel
theorem dX5_init_40 : decode cX5_init 40 = .ok (.aload_n 0, 1) := by decide +kernel
theorem dX5_init_41 : decode cX5_init 41 = .ok (.iconst 2, 1) := by decide +kernel
theorem dX5_init_42 : decode cX5_init 42 = .ok (.newarray .boolean, 2) := by decide +kernel
theorem dX5_init_44 : decode cX5_init 44 = .ok (.putfield 22, 3) := by decide +kernel
theorem dX5_init_47 : decode cX5_init 47 = .ok (.aload_n 0, 1) := by decide +kernel
theorem dX5_init_48 : decode cX5_init 48 = .ok (.bipush 80, 2) := by decide +kernel
theorem dX5_init_50 : decode cX5_init 50 = .ok (.newarray .int, 2) := by decide +kernel
theorem dX5_init_52 : decode cX5_init 52 = .ok (.putfield 26, 3) := by decide +kernel
theorem dX5_init_55 : decode cX5_init 55 = .ok (.aload_n 0, 1) := by decide +kernel
theorem dX5_init_56 : decode cX5_init 56 = .ok (.sipush 164, 3) := by decide +kernel
theorem dX5_init_59 : decode cX5_init 59 = .ok (.newarray .int, 2) := by decide +kernel
theorem dX5_init_61 : decode cX5_init 61 = .ok (.putfield 30, 3) := by decide +kernel
theorem dX5_init_64 : decode cX5_init 64 = .ok (.aload_n 0, 1) := by decide +kernel
theorem dX5_init_65 : decode cX5_init 65 = .ok (.getfield 7, 3) := by decide +kernel
theorem dX5_init_68 : decode cX5_init 68 = .ok (.iconst 5, 1) := by decide +kernel
theorem dX5_init_69 : decode cX5_init 69 = .ok (.ldc2_w 33, 3) := by decide +kernel
theorem dX5_init_72 : decode cX5_init 72 = .ok (.lastore, 1) := by decide +kernel
theorem dX5_init_73 : decode cX5_init 73 = .ok (.aload_n 0, 1) := by decide +kernel
theorem dX5_init_74 : decode cX5_init 74 = .ok (.getfield 7, 3) := by decide +kernel
theorem dX5_init_77 : decode cX5_init 77 = .ok (.bipush 6, 2) := by decide +kernel
theorem dX5_init_79 : decode cX5_init 79 = .ok (.ldc2_w 35, 3) := by decide +kernel
theorem dX5_init_82 : decode cX5_init 82 = .ok (.lastore, 1) := by decide +kernel
