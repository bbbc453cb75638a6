theorem dX5_init_83 : decode cX5_init 83 = .ok (.aload_n 0, 1) := by decide +kernel
theorem dX5_init_84 : decode cX5_init 84 = .ok (.getfield 7, 3) := by decide +kernel
theorem dX5_init_87 : decode cX5_init 87 = .ok (.bipush 7, 2) := by decide +kernel
theorem dX5_init_89 : decode cX5_init 89 = .ok (.ldc2_w 37, 3) := by decide +kernel
theorem dX5_init_92 : decode cX5_init 92 = .ok (.lastore, 1) := by decide +kernel
theorem dX5_init_93 : decode cX5_init 93 = .ok (.aload_n 0, 1) := by decide +kernel
theorem dX5_init_94 : decode cX5_init 94 = .ok (.getfield 7, 3) := by decide +kernel
theorem dX5_init_97 : decode cX5_init 97 = .ok (.bipush 8, 2) := by decide +kernel
theorem dX5_init_99 : decode cX5_init 99 = .ok (.ldc2_w 39, 3) := by decide +kernel
theorem dX5_init_102 : decode cX5_init 102 = .ok (.lastore, 1) := by decide +kernel
theorem dX5_init_103 : decode cX5_init 103 = .ok (.aload_n 0, 1) := by decide +kernel
theorem dX5_init_104 : decode cX5_init 104 = .ok (.getfield 7, 3) := by decide +kernel
theorem dX5_init_107 : decode cX5_init 107 = .ok (.bipush 9, 2) := by decide +kernel
theorem dX5_init_109 : decode cX5_init 109 = .ok (.ldc2_w 41, 3) := by decide +kernel
theorem dX5_init_112 : decode cX5_init 112 = .ok (.lastore, 1) := by decide +kernel
theorem dX5_init_113 : decode cX5_init 113 = .ok (.aload_n 0, 1) := by decide +kernel
theorem dX5_init_114 : decode cX5_init 114 = .ok (.getfield 7, 3) := by decide +kernel
theorem dX5_init_117 : decode cX5_init 117 = .ok (.bipush 10, 2) := by decide +kernel
theorem dX5_init_119 : decode cX5_init 119 = .ok (.ldc2_w 43, 3) := by decide +kernel
theorem dX5_init_122 : decode cX5_init 122 = .ok (.lastore, 1) := by decide +kernel
theorem dX5_init_123 : decode cX5_init 123 = .ok (.aload_n 0, 1) := by decide +kernel
theorem dX5_init_124 : decode cX5_init 124 = .ok (.getfield 7, 3) := by decide +kernel
theorem dX5_init_127 : decode cX5_init 127 = .ok (.bipush 11, 2) := by decide +kernel
theorem dX5_init_129 : decode cX5_init 129 = .ok (.ldc2_w 39, 3) := by decide +kernel
theorem dX5_init_132 : decode cX5_init 132 = .ok (.lastore, 1) := by decide +kernel
theorem dX5_init_133 : decode cX5_init 133 = .ok (.iconst 0, 1) := by decide +kernel
theorem dX5_init_134 : decode cX5_init 134 = .ok (.istore_n 1, 1) := by decide +kernel
theorem dX5_init_135 : decode cX5_init 135 = .ok (.iload_n 1, 1) := by decide +kernel
theorem dX5_init_136 : decode cX5_init 136 = .ok (.iconst 4, 1) := by decide +kernel
theorem dX5_init_137 : decode cX5_init 137 = .ok (.if_icmp .ge 36, 3) := by decide +kernel
theorem dX5_init_140 : decode cX5_init 140 = .ok (.aload_n 0, 1) := by decide +kernel
theorem dX5_init_141 : decode cX5_init 141 = .ok (.getfield 7, 3) := by decide +kernel
theorem dX5_init_144 : decode cX5_init 144 = .ok (.iload_n 1, 1) := by decide +kernel
theorem dX5_init_145 : decode cX5_init 145 = .ok (.invokestatic 45, 3) := by decide +kernel
theorem dX5_init_148 : decode cX5_init 148 = .ok (.iconst 0, 1) := by decide +kernel
theorem dX5_init_149 : decode cX5_init 149 = .ok (.iadd, 1) := by decide +kernel
theorem dX5_init_150 : decode cX5_init 150 = .ok (.ldc2_w 33, 3) := by decide +kernel
theorem dX5_init_153 : decode cX5_init 153 = .ok (.lastore, 1) := by decide +kernel
theorem dX5_init_154 : decode cX5_init 154 = .ok (.aload_n 0, 1) := by decide +kernel
theorem dX5_init_155 : decode cX5_init 155 = .ok (.getfield 7, 3) := by decide +kernel
theorem dX5_init_158 : decode cX5_init 158 = .ok (.iload_n 1, 1) := by decide +kernel
theorem dX5_init_159 : decode cX5_init 159 = .ok (.invokestatic 45, 3) := by decide +kernel
theorem dX5_init_162 : decode cX5_init 162 = .ok (.bipush 8, 2) := by decide +kernel
theorem dX5_init_164 : decode cX5_init 164 = .ok (.iadd, 1) := by decide +kernel
theorem dX5_init_165 : decode cX5_init 165 = .ok (.lconst 1, 1) := by decide +kernel
theorem dX5_init_166 : decode cX5_init 166 = .ok (.lastore, 1) := by decide +kernel
theorem dX5_init_167 : decode cX5_init 167 = .ok (.iinc 1 1, 3) := by decide +kernel
theorem dX5_init_170 : decode cX5_init 170 = .ok (.goto (-35), 3) := by decide +kernel
theorem dX5_init_173 : decode cX5_init 173 = .ok (.return_, 1) := by decide +kernel
theorem dX5_in_0 : decode cX5_in 0 = .ok (.lload_n 0, 1) := by decide +kernel
theorem dX5_in_1 : decode cX5_in 1 = .ok (.lload_n 2, 1) := by decide +kernel
theorem dX5_in_2 : decode cX5_in 2 = .ok (.lcmp, 1) := by decide +kernel
theorem dX5_in_3 : decode cX5_in 3 = .ok (.ifCond .lt 14, 3) := by decide +kernel
theorem dX5_in_6 : decode cX5_in 6 = .ok (.lload_n 0, 1) := by decide +kernel
theorem dX5_in_7 : decode cX5_in 7 = .ok (.lload 4, 2) := by decide +kernel
theorem dX5_in_9 : decode cX5_in 9 = .ok (.lcmp, 1) := by decide +kernel
theorem dX5_in_10 : decode cX5_in 10 = .ok (.ifCond .gt 7, 3) := by decide +kernel
theorem dX5_in_13 : decode cX5_in 13 = .ok (.iconst 1, 1) := by decide +kernel
theorem dX5_in_14 : decode cX5_in 14 = .ok (.goto 4, 3) := by decide +kernel
theorem dX5_in_17 : decode cX5_in 17 = .ok (.iconst 0, 1) := by decide +kernel
theorem dX5_in_18 : decode cX5_in 18 = .ok (.ireturn, 1) := by decide +kernel
theorem dX5_isDrive_0 : decode cX5_isDrive 0 = .ok (.iload_n 0, 1) := by decide +kernel
theorem dX5_isDrive_1 : decode cX5_isDrive 1 = .ok (.i2l, 1) := by decide +kernel
theorem dX5_isDrive_2 : decode cX5_isDrive 2 = .ok (.lconst 0, 1) := by decide +kernel
theorem dX5_isDrive_3 : decode cX5_isDrive 3 = .ok (.ldc2_w 49, 3) := by decide +kernel
theorem dX5_isDrive_6 : decode cX5_isDrive 6 = .ok (.invokestatic 51, 3) := by decide +kernel
theorem dX5_isDrive_9 : decode cX5_isDrive 9 = .ok (.ireturn, 1) := by decide +kernel
theorem dX5_isHour_0 : decode cX5_isHour 0 = .ok (.iload_n 0, 1) := by decide +kernel
theorem dX5_isHour_1 : decode cX5_isHour 1 = .ok (.i2l, 1) := by decide +kernel
theorem dX5_isHour_2 : decode cX5_isHour 2 = .ok (.lconst 0, 1) := by decide +kernel
theorem dX5_isHour_3 : decode cX5_isHour 3 = .ok (.ldc2_w 55, 3) := by decide +kernel
theorem dX5_isHour_6 : decode cX5_isHour 6 = .ok (.invokestatic 51, 3) := by decide +kernel
theorem dX5_isHour_9 : decode cX5_isHour 9 = .ok (.ireturn, 1) := by decide +kernel
theorem dX5_row_0 : decode cX5_row 0 = .ok (.bipush 12, 2) := by decide +kernel
theorem dX5_row_2 : decode cX5_row 2 = .ok (.bipush 11, 2) := by decide +kernel
theorem dX5_row_4 : decode cX5_row 4 = .ok (.iload_n 0, 1) := by decide +kernel
theorem dX5_row_5 : decode cX5_row 5 = .ok (.imul, 1) := by decide +kernel
theorem dX5_row_6 : decode cX5_row 6 = .ok (.iadd, 1) := by decide +kernel
theorem dX5_row_7 : decode cX5_row 7 = .ok (.ireturn, 1) := by decide +kernel
theorem dX5_lays_0 : decode cX5_lays 0 = .ok (.iconst 0, 1) := by decide +kernel
theorem dX5_lays_1 : decode cX5_lays 1 = .ok (.istore 4, 2) := by decide +kernel
theorem dX5_lays_3 : decode cX5_lays 3 = .ok (.iload 4, 2) := by decide +kernel
theorem dX5_lays_5 : decode cX5_lays 5 = .ok (.sipush 456, 3) := by decide +kernel
theorem dX5_lays_8 : decode cX5_lays 8 = .ok (.if_icmp .ge 21, 3) := by decide +kernel
theorem dX5_lays_11 : decode cX5_lays 11 = .ok (.aload_n 2, 1) := by decide +kernel
theorem dX5_lays_12 : decode cX5_lays 12 = .ok (.iload_n 3, 1) := by decide +kernel
theorem dX5_lays_13 : decode cX5_lays 13 = .ok (.iload 4, 2) := by decide +kernel
theorem dX5_lays_15 : decode cX5_lays 15 = .ok (.iadd, 1) := by decide +kernel
theorem dX5_lays_16 : decode cX5_lays 16 = .ok (.aload_n 0, 1) := by decide +kernel
theorem dX5_lays_17 : decode cX5_lays 17 = .ok (.iload_n 1, 1) := by decide +kernel
theorem dX5_lays_18 : decode cX5_lays 18 = .ok (.iload 4, 2) := by decide +kernel
theorem dX5_lays_20 : decode cX5_lays 20 = .ok (.iadd, 1) := by decide +kernel
theorem dX5_lays_21 : decode cX5_lays 21 = .ok (.laload, 1) := by decide +kernel
theorem dX5_lays_22 : decode cX5_lays 22 = .ok (.lastore, 1) := by decide +kernel
theorem dX5_lays_23 : decode cX5_lays 23 = .ok (.iinc 4 1, 3) := by decide +kernel
theorem dX5_lays_26 : decode cX5_lays 26 = .ok (.goto (-23), 3) := by decide +kernel
theorem dX5_lays_29 : decode cX5_lays 29 = .ok (.return_, 1) := by decide +kernel
theorem dX5_records_0 : decode cX5_records 0 = .ok (.aload_n 0, 1) := by decide +kernel
theorem dX5_records_1 : decode cX5_records 1 = .ok (.getfield 57, 3) := by decide +kernel
theorem dX5_records_4 : decode cX5_records 4 = .ok (.bipush 6, 2) := by decide +kernel
theorem dX5_records_6 : decode cX5_records 6 = .ok (.if_icmp .ne 44, 3) := by decide +kernel
theorem dX5_records_9 : decode cX5_records 9 = .ok (.iconst 0, 1) := by decide +kernel
theorem dX5_records_10 : decode cX5_records 10 = .ok (.istore_n 1, 1) := by decide +kernel
theorem dX5_records_11 : decode cX5_records 11 = .ok (.iload_n 1, 1) := by decide +kernel
theorem dX5_records_12 : decode cX5_records 12 = .ok (.sipush 2280, 3) := by decide +kernel
theorem dX5_records_15 : decode cX5_records 15 = .ok (.if_icmp .ge 25, 3) := by decide +kernel
theorem dX5_records_18 : decode cX5_records 18 = .ok (.aload_n 0, 1) := by decide +kernel
theorem dX5_records_19 : decode cX5_records 19 = .ok (.getfield 16, 3) := by decide +kernel
theorem dX5_records_22 : decode cX5_records 22 = .ok (.iload_n 1, 1) := by decide +kernel
theorem dX5_records_23 : decode cX5_records 23 = .ok (.aload_n 0, 1) := by decide +kernel
theorem dX5_records_24 : decode cX5_records 24 = .ok (.getfield 16, 3) := by decide +kernel
theorem dX5_records_27 : decode cX5_records 27 = .ok (.iload_n 1, 1) := by decide +kernel
theorem dX5_records_28 : decode cX5_records 28 = .ok (.sipush 456, 3) := by decide +kernel
theorem dX5_records_31 : decode cX5_records 31 = .ok (.iadd, 1) := by decide +kernel
theorem dX5_records_32 : decode cX5_records 32 = .ok (.laload, 1) := by decide +kernel
theorem dX5_records_33 : decode cX5_records 33 = .ok (.lastore, 1) := by decide +kernel
theorem dX5_records_34 : decode cX5_records 34 = .ok (.iinc 1 1, 3) := by decide +kernel
theorem dX5_records_37 : decode cX5_records 37 = .ok (.goto (-26), 3) := by decide +kernel
theorem dX5_records_40 : decode cX5_records 40 = .ok (.aload_n 0, 1) := by decide +kernel
theorem dX5_records_41 : decode cX5_records 41 = .ok (.dup, 1) := by decide +kernel
theorem dX5_records_42 : decode cX5_records 42 = .ok (.getfield 57, 3) := by decide +kernel
theorem dX5_records_45 : decode cX5_records 45 = .ok (.iconst 1, 1) := by decide +kernel
theorem dX5_records_46 : decode cX5_records 46 = .ok (.isub, 1) := by decide +kernel
theorem dX5_records_47 : decode cX5_records 47 = .ok (.putfield 57, 3) := by decide +kernel
theorem dX5_records_50 : decode cX5_records 50 = .ok (.aload_n 0, 1) := by decide +kernel
theorem dX5_records_51 : decode cX5_records 51 = .ok (.getfield 7, 3) := by decide +kernel
theorem dX5_records_54 : decode cX5_records 54 = .ok (.iconst 0, 1) := by decide +kernel
theorem dX5_records_55 : decode cX5_records 55 = .ok (.aload_n 0, 1) := by decide +kernel
theorem dX5_records_56 : decode cX5_records 56 = .ok (.getfield 16, 3) := by decide +kernel
theorem dX5_records_59 : decode cX5_records 59 = .ok (.sipush 456, 3) := by decide +kernel
theorem dX5_records_62 : decode cX5_records 62 = .ok (.aload_n 0, 1) := by decide +kernel
theorem dX5_records_63 : decode cX5_records 63 = .ok (.getfield 57, 3) := by decide +kernel
theorem dX5_records_66 : decode cX5_records 66 = .ok (.imul, 1) := by decide +kernel
theorem dX5_records_67 : decode cX5_records 67 = .ok (.invokestatic 61, 3) := by decide +kernel
theorem dX5_records_70 : decode cX5_records 70 = .ok (.aload_n 0, 1) := by decide +kernel
theorem dX5_records_71 : decode cX5_records 71 = .ok (.dup, 1) := by decide +kernel
theorem dX5_records_72 : decode cX5_records 72 = .ok (.getfield 57, 3) := by decide +kernel
theorem dX5_records_75 : decode cX5_records 75 = .ok (.iconst 1, 1) := by decide +kernel
theorem dX5_records_76 : decode cX5_records 76 = .ok (.iadd, 1) := by decide +kernel
theorem dX5_records_77 : decode cX5_records 77 = .ok (.putfield 57, 3) := by decide +kernel
theorem dX5_records_80 : decode cX5_records 80 = .ok (.return_, 1) := by decide +kernel
theorem dX5_undo_0 : decode cX5_undo 0 = .ok (.aload_n 0, 1) := by decide +kernel
theorem dX5_undo_1 : decode cX5_undo 1 = .ok (.getfield 57, 3) := by decide +kernel
theorem dX5_undo_4 : decode cX5_undo 4 = .ok (.ifCond .ne 6, 3) := by decide +kernel
theorem dX5_undo_7 : decode cX5_undo 7 = .ok (.bipush (-5), 2) := by decide +kernel
theorem dX5_undo_9 : decode cX5_undo 9 = .ok (.ireturn, 1) := by decide +kernel
theorem dX5_undo_10 : decode cX5_undo 10 = .ok (.aload_n 0, 1) := by decide +kernel
theorem dX5_undo_11 : decode cX5_undo 11 = .ok (.dup, 1) := by decide +kernel
theorem dX5_undo_12 : decode cX5_undo 12 = .ok (.getfield 57, 3) := by decide +kernel
theorem dX5_undo_15 : decode cX5_undo 15 = .ok (.iconst 1, 1) := by decide +kernel
theorem dX5_undo_16 : decode cX5_undo 16 = .ok (.isub, 1) := by decide +kernel
theorem dX5_undo_17 : decode cX5_undo 17 = .ok (.putfield 57, 3) := by decide +kernel
theorem dX5_undo_20 : decode cX5_undo 20 = .ok (.aload_n 0, 1) := by decide +kernel
theorem dX5_undo_21 : decode cX5_undo 21 = .ok (.getfield 16, 3) := by decide +kernel
theorem dX5_undo_24 : decode cX5_undo 24 = .ok (.sipush 456, 3) := by decide +kernel
theorem dX5_undo_27 : decode cX5_undo 27 = .ok (.aload_n 0, 1) := by decide +kernel
theorem dX5_undo_28 : decode cX5_undo 28 = .ok (.getfield 57, 3) := by decide +kernel
theorem dX5_undo_31 : decode cX5_undo 31 = .ok (.imul, 1) := by decide +kernel
theorem dX5_undo_32 : decode cX5_undo 32 = .ok (.aload_n 0, 1) := by decide +kernel
theorem dX5_undo_33 : decode cX5_undo 33 = .ok (.getfield 7, 3) := by decide +kernel
theorem dX5_undo_36 : decode cX5_undo 36 = .ok (.iconst 0, 1) := by decide +kernel
theorem dX5_undo_37 : decode cX5_undo 37 = .ok (.invokestatic 61, 3) := by decide +kernel
theorem dX5_undo_40 : decode cX5_undo 40 = .ok (.aload_n 0, 1) := by decide +kernel
theorem dX5_undo_41 : decode cX5_undo 41 = .ok (.getfield 57, 3) := by decide +kernel
theorem dX5_undo_44 : decode cX5_undo 44 = .ok (.ireturn, 1) := by decide +kernel
theorem dX5_save_0 : decode cX5_save 0 = .ok (.iload_n 1, 1) := by decide +kernel
theorem dX5_save_1 : decode cX5_save 1 = .ok (.i2l, 1) := by decide +kernel
theorem dX5_save_2 : decode cX5_save 2 = .ok (.lconst 0, 1) := by decide +kernel
theorem dX5_save_3 : decode cX5_save 3 = .ok (.lconst 1, 1) := by decide +kernel
theorem dX5_save_4 : decode cX5_save 4 = .ok (.invokestatic 51, 3) := by decide +kernel
theorem dX5_save_7 : decode cX5_save 7 = .ok (.ifCond .ne 6, 3) := by decide +kernel
theorem dX5_save_10 : decode cX5_save 10 = .ok (.bipush (-2), 2) := by decide +kernel
theorem dX5_save_12 : decode cX5_save 12 = .ok (.ireturn, 1) := by decide +kernel
theorem dX5_save_13 : decode cX5_save 13 = .ok (.aload_n 0, 1) := by decide +kernel
theorem dX5_save_14 : decode cX5_save 14 = .ok (.getfield 7, 3) := by decide +kernel
theorem dX5_save_17 : decode cX5_save 17 = .ok (.iconst 0, 1) := by decide +kernel
theorem dX5_save_18 : decode cX5_save 18 = .ok (.aload_n 0, 1) := by decide +kernel
theorem dX5_save_19 : decode cX5_save 19 = .ok (.getfield 19, 3) := by decide +kernel
theorem dX5_save_22 : decode cX5_save 22 = .ok (.sipush 456, 3) := by decide +kernel
theorem dX5_save_25 : decode cX5_save 25 = .ok (.iload_n 1, 1) := by decide +kernel
theorem dX5_save_26 : decode cX5_save 26 = .ok (.imul, 1) := by decide +kernel
theorem dX5_save_27 : decode cX5_save 27 = .ok (.invokestatic 61, 3) := by decide +kernel
theorem dX5_save_30 : decode cX5_save 30 = .ok (.aload_n 0, 1) := by decide +kernel
theorem dX5_save_31 : decode cX5_save 31 = .ok (.getfield 22, 3) := by decide +kernel
theorem dX5_save_34 : decode cX5_save 34 = .ok (.iload_n 1, 1) := by decide +kernel
theorem dX5_save_35 : decode cX5_save 35 = .ok (.iconst 1, 1) := by decide +kernel
theorem dX5_save_36 : decode cX5_save 36 = .ok (.bastore, 1) := by decide +kernel
theorem dX5_save_37 : decode cX5_save 37 = .ok (.aload_n 0, 1) := by decide +kernel
theorem dX5_save_38 : decode cX5_save 38 = .ok (.getfield 7, 3) := by decide +kernel
theorem dX5_save_41 : decode cX5_save 41 = .ok (.iconst 0, 1) := by decide +kernel
theorem dX5_save_42 : decode cX5_save 42 = .ok (.laload, 1) := by decide +kernel
theorem dX5_save_43 : decode cX5_save 43 = .ok (.l2i, 1) := by decide +kernel
theorem dX5_save_44 : decode cX5_save 44 = .ok (.ireturn, 1) := by decide +kernel
theorem dX5_restore_0 : decode cX5_restore 0 = .ok (.iload_n 1, 1) := by decide +kernel
theorem dX5_restore_1 : decode cX5_restore 1 = .ok (.i2l, 1) := by decide +kernel
theorem dX5_restore_2 : decode cX5_restore 2 = .ok (.lconst 0, 1) := by decide +kernel
theorem dX5_restore_3 : decode cX5_restore 3 = .ok (.lconst 1, 1) := by decide +kernel
theorem dX5_restore_4 : decode cX5_restore 4 = .ok (.invokestatic 51, 3) := by decide +kernel
theorem dX5_restore_7 : decode cX5_restore 7 = .ok (.ifCond .ne 6, 3) := by decide +kernel
theorem dX5_restore_10 : decode cX5_restore 10 = .ok (.bipush (-2), 2) := by decide +kernel
theorem dX5_restore_12 : decode cX5_restore 12 = .ok (.ireturn, 1) := by decide +kernel
theorem dX5_restore_13 : decode cX5_restore 13 = .ok (.aload_n 0, 1) := by decide +kernel
theorem dX5_restore_14 : decode cX5_restore 14 = .ok (.getfield 22, 3) := by decide +kernel
theorem dX5_restore_17 : decode cX5_restore 17 = .ok (.iload_n 1, 1) := by decide +kernel
theorem dX5_restore_18 : decode cX5_restore 18 = .ok (.baload, 1) := by decide +kernel
theorem dX5_restore_19 : decode cX5_restore 19 = .ok (.ifCond .ne 6, 3) := by decide +kernel
theorem dX5_restore_22 : decode cX5_restore 22 = .ok (.bipush (-5), 2) := by decide +kernel
theorem dX5_restore_24 : decode cX5_restore 24 = .ok (.ireturn, 1) := by decide +kernel
theorem dX5_restore_25 : decode cX5_restore 25 = .ok (.aload_n 0, 1) := by decide +kernel
theorem dX5_restore_26 : decode cX5_restore 26 = .ok (.invokevirtual 65, 3) := by decide +kernel
theorem dX5_restore_29 : decode cX5_restore 29 = .ok (.aload_n 0, 1) := by decide +kernel
theorem dX5_restore_30 : decode cX5_restore 30 = .ok (.getfield 19, 3) := by decide +kernel
theorem dX5_restore_33 : decode cX5_restore 33 = .ok (.sipush 456, 3) := by decide +kernel
theorem dX5_restore_36 : decode cX5_restore 36 = .ok (.iload_n 1, 1) := by decide +kernel
theorem dX5_restore_37 : decode cX5_restore 37 = .ok (.imul, 1) := by decide +kernel
theorem dX5_restore_38 : decode cX5_restore 38 = .ok (.aload_n 0, 1) := by decide +kernel
theorem dX5_restore_39 : decode cX5_restore 39 = .ok (.getfield 7, 3) := by decide +kernel
theorem dX5_restore_42 : decode cX5_restore 42 = .ok (.iconst 0, 1) := by decide +kernel
theorem dX5_restore_43 : decode cX5_restore 43 = .ok (.invokestatic 61, 3) := by decide +kernel
theorem dX5_restore_46 : decode cX5_restore 46 = .ok (.aload_n 0, 1) := by decide +kernel
theorem dX5_restore_47 : decode cX5_restore 47 = .ok (.getfield 7, 3) := by decide +kernel
theorem dX5_restore_50 : decode cX5_restore 50 = .ok (.iconst 0, 1) := by decide +kernel
theorem dX5_restore_51 : decode cX5_restore 51 = .ok (.laload, 1) := by decide +kernel
theorem dX5_restore_52 : decode cX5_restore 52 = .ok (.l2i, 1) := by decide +kernel
theorem dX5_restore_53 : decode cX5_restore 53 = .ok (.ireturn, 1) := by decide +kernel
theorem dX5_hourOf_0 : decode cX5_hourOf 0 = .ok (.lload_n 2, 1) := by decide +kernel
theorem dX5_hourOf_1 : decode cX5_hourOf 1 = .ok (.lconst 0, 1) := by decide +kernel
theorem dX5_hourOf_2 : decode cX5_hourOf 2 = .ok (.lcmp, 1) := by decide +kernel
theorem dX5_hourOf_3 : decode cX5_hourOf 3 = .ok (.ifCond .lt 11, 3) := by decide +kernel
theorem dX5_hourOf_6 : decode cX5_hourOf 6 = .ok (.lload_n 2, 1) := by decide +kernel
theorem dX5_hourOf_7 : decode cX5_hourOf 7 = .ok (.ldc2_w 68, 3) := by decide +kernel
theorem dX5_hourOf_10 : decode cX5_hourOf 10 = .ok (.lcmp, 1) := by decide +kernel
theorem dX5_hourOf_11 : decode cX5_hourOf 11 = .ok (.ifCond .lt 7, 3) := by decide +kernel
theorem dX5_hourOf_14 : decode cX5_hourOf 14 = .ok (.iconst 0, 1) := by decide +kernel
theorem dX5_hourOf_15 : decode cX5_hourOf 15 = .ok (.goto 16, 3) := by decide +kernel
theorem dX5_hourOf_18 : decode cX5_hourOf 18 = .ok (.aload_n 0, 1) := by decide +kernel
theorem dX5_hourOf_19 : decode cX5_hourOf 19 = .ok (.bipush 56, 2) := by decide +kernel
theorem dX5_hourOf_21 : decode cX5_hourOf 21 = .ok (.bipush 100, 2) := by decide +kernel
theorem dX5_hourOf_23 : decode cX5_hourOf 23 = .ok (.iload_n 1, 1) := by decide +kernel
theorem dX5_hourOf_24 : decode cX5_hourOf 24 = .ok (.imul, 1) := by decide +kernel
theorem dX5_hourOf_25 : decode cX5_hourOf 25 = .ok (.iadd, 1) := by decide +kernel
theorem dX5_hourOf_26 : decode cX5_hourOf 26 = .ok (.lload_n 2, 1) := by decide +kernel
theorem dX5_hourOf_27 : decode cX5_hourOf 27 = .ok (.l2i, 1) := by decide +kernel
theorem dX5_hourOf_28 : decode cX5_hourOf 28 = .ok (.iadd, 1) := by decide +kernel
theorem dX5_hourOf_29 : decode cX5_hourOf 29 = .ok (.laload, 1) := by decide +kernel
theorem dX5_hourOf_30 : decode cX5_hourOf 30 = .ok (.l2i, 1) := by decide +kernel
theorem dX5_hourOf_31 : decode cX5_hourOf 31 = .ok (.ireturn, 1) := by decide +kernel
theorem dX5_isQuiet_0 : decode cX5_isQuiet 0 = .ok (.aload_n 0, 1) := by decide +kernel
theorem dX5_isQuiet_1 : decode cX5_isQuiet 1 = .ok (.iload_n 1, 1) := by decide +kernel
theorem dX5_isQuiet_2 : decode cX5_isQuiet 2 = .ok (.aload_n 0, 1) := by decide +kernel
theorem dX5_isQuiet_3 : decode cX5_isQuiet 3 = .ok (.iconst 0, 1) := by decide +kernel
theorem dX5_isQuiet_4 : decode cX5_isQuiet 4 = .ok (.laload, 1) := by decide +kernel
theorem dX5_isQuiet_5 : decode cX5_isQuiet 5 = .ok (.ldc2_w 33, 3) := by decide +kernel
theorem dX5_isQuiet_8 : decode cX5_isQuiet 8 = .ok (.ldiv, 1) := by decide +kernel
theorem dX5_isQuiet_9 : decode cX5_isQuiet 9 = .ok (.invokestatic 70, 3) := by decide +kernel
theorem dX5_isQuiet_12 : decode cX5_isQuiet 12 = .ok (.ifCond .le 7, 3) := by decide +kernel
theorem dX5_isQuiet_15 : decode cX5_isQuiet 15 = .ok (.iconst 1, 1) := by decide +kernel
theorem dX5_isQuiet_16 : decode cX5_isQuiet 16 = .ok (.goto 4, 3) := by decide +kernel
theorem dX5_isQuiet_19 : decode cX5_isQuiet 19 = .ok (.iconst 0, 1) := by decide +kernel
theorem dX5_isQuiet_20 : decode cX5_isQuiet 20 = .ok (.ireturn, 1) := by decide +kernel
theorem dX5_moves_0 : decode cX5_moves 0 = .ok (.aload_n 0, 1) := by decide +kernel
theorem dX5_moves_1 : decode cX5_moves 1 = .ok (.iload_n 1, 1) := by decide +kernel
theorem dX5_moves_2 : decode cX5_moves 2 = .ok (.dup2, 1) := by decide +kernel
theorem dX5_moves_3 : decode cX5_moves 3 = .ok (.laload, 1) := by decide +kernel
theorem dX5_moves_4 : decode cX5_moves 4 = .ok (.lload_n 3, 1) := by decide +kernel
theorem dX5_moves_5 : decode cX5_moves 5 = .ok (.lsub, 1) := by decide +kernel
theorem dX5_moves_6 : decode cX5_moves 6 = .ok (.lastore, 1) := by decide +kernel
theorem dX5_moves_7 : decode cX5_moves 7 = .ok (.aload_n 0, 1) := by decide +kernel
theorem dX5_moves_8 : decode cX5_moves 8 = .ok (.iload_n 2, 1) := by decide +kernel
theorem dX5_moves_9 : decode cX5_moves 9 = .ok (.dup2, 1) := by decide +kernel
theorem dX5_moves_10 : decode cX5_moves 10 = .ok (.laload, 1) := by decide +kernel
theorem dX5_moves_11 : decode cX5_moves 11 = .ok (.lload_n 3, 1) := by decide +kernel
theorem dX5_moves_12 : decode cX5_moves 12 = .ok (.ladd, 1) := by decide +kernel
theorem dX5_moves_13 : decode cX5_moves 13 = .ok (.lastore, 1) := by decide +kernel
theorem dX5_moves_14 : decode cX5_moves 14 = .ok (.return_, 1) := by decide +kernel
theorem dX5_least_0 : decode cX5_least 0 = .ok (.lload_n 0, 1) := by decide +kernel
theorem dX5_least_1 : decode cX5_least 1 = .ok (.lload_n 2, 1) := by decide +kernel
theorem dX5_least_2 : decode cX5_least 2 = .ok (.lcmp, 1) := by decide +kernel
theorem dX5_least_3 : decode cX5_least 3 = .ok (.ifCond .ge 7, 3) := by decide +kernel
theorem dX5_least_6 : decode cX5_least 6 = .ok (.lload_n 0, 1) := by decide +kernel
theorem dX5_least_7 : decode cX5_least 7 = .ok (.goto 4, 3) := by decide +kernel
theorem dX5_least_10 : decode cX5_least 10 = .ok (.lload_n 2, 1) := by decide +kernel
theorem dX5_least_11 : decode cX5_least 11 = .ok (.lreturn, 1) := by decide +kernel
theorem dX5_turns_0 : decode cX5_turns 0 = .ok (.aload_n 0, 1) := by decide +kernel
theorem dX5_turns_1 : decode cX5_turns 1 = .ok (.iconst 0, 1) := by decide +kernel
theorem dX5_turns_2 : decode cX5_turns 2 = .ok (.laload, 1) := by decide +kernel
theorem dX5_turns_3 : decode cX5_turns 3 = .ok (.ldc2_w 33, 3) := by decide +kernel
theorem dX5_turns_6 : decode cX5_turns 6 = .ok (.ldiv, 1) := by decide +kernel
theorem dX5_turns_7 : decode cX5_turns 7 = .ok (.lstore_n 2, 1) := by decide +kernel
theorem dX5_turns_8 : decode cX5_turns 8 = .ok (.aload_n 0, 1) := by decide +kernel
theorem dX5_turns_9 : decode cX5_turns 9 = .ok (.iload_n 1, 1) := by decide +kernel
theorem dX5_turns_10 : decode cX5_turns 10 = .ok (.lload_n 2, 1) := by decide +kernel
theorem dX5_turns_11 : decode cX5_turns 11 = .ok (.lconst 1, 1) := by decide +kernel
theorem dX5_turns_12 : decode cX5_turns 12 = .ok (.lsub, 1) := by decide +kernel
theorem dX5_turns_13 : decode cX5_turns 13 = .ok (.invokestatic 70, 3) := by decide +kernel
theorem dX5_turns_16 : decode cX5_turns 16 = .ok (.iconst 1, 1) := by decide +kernel
theorem dX5_turns_17 : decode cX5_turns 17 = .ok (.if_icmp .ne 30, 3) := by decide +kernel
theorem dX5_turns_20 : decode cX5_turns 20 = .ok (.aload_n 0, 1) := by decide +kernel
theorem dX5_turns_21 : decode cX5_turns 21 = .ok (.bipush 56, 2) := by decide +kernel
theorem dX5_turns_23 : decode cX5_turns 23 = .ok (.bipush 100, 2) := by decide +kernel
theorem dX5_turns_25 : decode cX5_turns 25 = .ok (.iload_n 1, 1) := by decide +kernel
theorem dX5_turns_26 : decode cX5_turns 26 = .ok (.imul, 1) := by decide +kernel
theorem dX5_turns_27 : decode cX5_turns 27 = .ok (.iadd, 1) := by decide +kernel
theorem dX5_turns_28 : decode cX5_turns 28 = .ok (.lload_n 2, 1) := by decide +kernel
theorem dX5_turns_29 : decode cX5_turns 29 = .ok (.l2i, 1) := by decide +kernel
theorem dX5_turns_30 : decode cX5_turns 30 = .ok (.iadd, 1) := by decide +kernel
theorem dX5_turns_31 : decode cX5_turns 31 = .ok (.iconst 1, 1) := by decide +kernel
theorem dX5_turns_32 : decode cX5_turns 32 = .ok (.isub, 1) := by decide +kernel
theorem dX5_turns_33 : decode cX5_turns 33 = .ok (.ldc2_w 37, 3) := by decide +kernel
theorem dX5_turns_36 : decode cX5_turns 36 = .ok (.lastore, 1) := by decide +kernel
theorem dX5_turns_37 : decode cX5_turns 37 = .ok (.aload_n 0, 1) := by decide +kernel
theorem dX5_turns_38 : decode cX5_turns 38 = .ok (.iconst 3, 1) := by decide +kernel
theorem dX5_turns_39 : decode cX5_turns 39 = .ok (.dup2, 1) := by decide +kernel
theorem dX5_turns_40 : decode cX5_turns 40 = .ok (.laload, 1) := by decide +kernel
theorem dX5_turns_41 : decode cX5_turns 41 = .ok (.aload_n 0, 1) := by decide +kernel
theorem dX5_turns_42 : decode cX5_turns 42 = .ok (.bipush 7, 2) := by decide +kernel
theorem dX5_turns_44 : decode cX5_turns 44 = .ok (.laload, 1) := by decide +kernel
theorem dX5_turns_45 : decode cX5_turns 45 = .ok (.ladd, 1) := by decide +kernel
theorem dX5_turns_46 : decode cX5_turns 46 = .ok (.lastore, 1) := by decide +kernel
theorem dX5_turns_47 : decode cX5_turns 47 = .ok (.aload_n 0, 1) := by decide +kernel
theorem dX5_turns_48 : decode cX5_turns 48 = .ok (.iconst 1, 1) := by decide +kernel
theorem dX5_turns_49 : decode cX5_turns 49 = .ok (.dup2, 1) := by decide +kernel
theorem dX5_turns_50 : decode cX5_turns 50 = .ok (.laload, 1) := by decide +kernel
theorem dX5_turns_51 : decode cX5_turns 51 = .ok (.aload_n 0, 1) := by decide +kernel
theorem dX5_turns_52 : decode cX5_turns 52 = .ok (.iload_n 1, 1) := by decide +kernel
theorem dX5_turns_53 : decode cX5_turns 53 = .ok (.lload_n 2, 1) := by decide +kernel
theorem dX5_turns_54 : decode cX5_turns 54 = .ok (.invokestatic 70, 3) := by decide +kernel
theorem dX5_turns_57 : decode cX5_turns 57 = .ok (.iconst 1, 1) := by decide +kernel
theorem dX5_turns_58 : decode cX5_turns 58 = .ok (.if_icmp .ne 9, 3) := by decide +kernel
theorem dX5_turns_61 : decode cX5_turns 61 = .ok (.aload_n 0, 1) := by decide +kernel
theorem dX5_turns_62 : decode cX5_turns 62 = .ok (.iconst 5, 1) := by decide +kernel
theorem dX5_turns_63 : decode cX5_turns 63 = .ok (.laload, 1) := by decide +kernel
theorem dX5_turns_64 : decode cX5_turns 64 = .ok (.goto 4, 3) := by decide +kernel
theorem dX5_turns_67 : decode cX5_turns 67 = .ok (.lconst 0, 1) := by decide +kernel
theorem dX5_turns_68 : decode cX5_turns 68 = .ok (.ladd, 1) := by decide +kernel
theorem dX5_turns_69 : decode cX5_turns 69 = .ok (.lastore, 1) := by decide +kernel
theorem dX5_turns_70 : decode cX5_turns 70 = .ok (.return_, 1) := by decide +kernel
theorem dX5_writes_0 : decode cX5_writes 0 = .ok (.iload_n 1, 1) := by decide +kernel
theorem dX5_writes_1 : decode cX5_writes 1 = .ok (.invokestatic 45, 3) := by decide +kernel
theorem dX5_writes_4 : decode cX5_writes 4 = .ok (.istore_n 3, 1) := by decide +kernel
theorem dX5_writes_5 : decode cX5_writes 5 = .ok (.iload_n 1, 1) := by decide +kernel
theorem dX5_writes_6 : decode cX5_writes 6 = .ok (.iconst 1, 1) := by decide +kernel
theorem dX5_writes_7 : decode cX5_writes 7 = .ok (.ixor, 1) := by decide +kernel
theorem dX5_writes_8 : decode cX5_writes 8 = .ok (.invokestatic 45, 3) := by decide +kernel
theorem dX5_writes_11 : decode cX5_writes 11 = .ok (.istore 4, 2) := by decide +kernel
theorem dX5_writes_13 : decode cX5_writes 13 = .ok (.iload_n 2, 1) := by decide +kernel
theorem dX5_writes_14 : decode cX5_writes 14 = .ok (.ifCond .ne 55, 3) := by decide +kernel
theorem dX5_writes_17 : decode cX5_writes 17 = .ok (.aload_n 0, 1) := by decide +kernel
theorem dX5_writes_18 : decode cX5_writes 18 = .ok (.iload 4, 2) := by decide +kernel
theorem dX5_writes_20 : decode cX5_writes 20 = .ok (.iconst 2, 1) := by decide +kernel
theorem dX5_writes_21 : decode cX5_writes 21 = .ok (.iadd, 1) := by decide +kernel
theorem dX5_writes_22 : decode cX5_writes 22 = .ok (.laload, 1) := by decide +kernel
theorem dX5_writes_23 : decode cX5_writes 23 = .ok (.aload_n 0, 1) := by decide +kernel
theorem dX5_writes_24 : decode cX5_writes 24 = .ok (.iload_n 3, 1) := by decide +kernel
theorem dX5_writes_25 : decode cX5_writes 25 = .ok (.iconst 0, 1) := by decide +kernel
theorem dX5_writes_26 : decode cX5_writes 26 = .ok (.iadd, 1) := by decide +kernel
theorem dX5_writes_27 : decode cX5_writes 27 = .ok (.laload, 1) := by decide +kernel
theorem dX5_writes_28 : decode cX5_writes 28 = .ok (.invokestatic 74, 3) := by decide +kernel
theorem dX5_writes_31 : decode cX5_writes 31 = .ok (.lstore 5, 2) := by decide +kernel
theorem dX5_writes_33 : decode cX5_writes 33 = .ok (.aload_n 0, 1) := by decide +kernel
theorem dX5_writes_34 : decode cX5_writes 34 = .ok (.iload 4, 2) := by decide +kernel
theorem dX5_writes_36 : decode cX5_writes 36 = .ok (.iconst 2, 1) := by decide +kernel
theorem dX5_writes_37 : decode cX5_writes 37 = .ok (.iadd, 1) := by decide +kernel
theorem dX5_writes_38 : decode cX5_writes 38 = .ok (.iload 4, 2) := by decide +kernel
theorem dX5_writes_40 : decode cX5_writes 40 = .ok (.iconst 1, 1) := by decide +kernel
theorem dX5_writes_41 : decode cX5_writes 41 = .ok (.iadd, 1) := by decide +kernel
theorem dX5_writes_42 : decode cX5_writes 42 = .ok (.lload 5, 2) := by decide +kernel
theorem dX5_writes_44 : decode cX5_writes 44 = .ok (.invokestatic 78, 3) := by decide +kernel
theorem dX5_writes_47 : decode cX5_writes 47 = .ok (.aload_n 0, 1) := by decide +kernel
theorem dX5_writes_48 : decode cX5_writes 48 = .ok (.iload_n 3, 1) := by decide +kernel
theorem dX5_writes_49 : decode cX5_writes 49 = .ok (.iconst 0, 1) := by decide +kernel
theorem dX5_writes_50 : decode cX5_writes 50 = .ok (.iadd, 1) := by decide +kernel
theorem dX5_writes_51 : decode cX5_writes 51 = .ok (.iload_n 3, 1) := by decide +kernel
theorem dX5_writes_52 : decode cX5_writes 52 = .ok (.iconst 1, 1) := by decide +kernel
theorem dX5_writes_53 : decode cX5_writes 53 = .ok (.iadd, 1) := by decide +kernel
theorem dX5_writes_54 : decode cX5_writes 54 = .ok (.lload 5, 2) := by decide +kernel
theorem dX5_writes_56 : decode cX5_writes 56 = .ok (.invokestatic 78, 3) := by decide +kernel
theorem dX5_writes_59 : decode cX5_writes 59 = .ok (.aload_n 0, 1) := by decide +kernel
theorem dX5_writes_60 : decode cX5_writes 60 = .ok (.iload_n 3, 1) := by decide +kernel
theorem dX5_writes_61 : decode cX5_writes 61 = .ok (.iconst 5, 1) := by decide +kernel
theorem dX5_writes_62 : decode cX5_writes 62 = .ok (.iadd, 1) := by decide +kernel
theorem dX5_writes_63 : decode cX5_writes 63 = .ok (.dup2, 1) := by decide +kernel
theorem dX5_writes_64 : decode cX5_writes 64 = .ok (.laload, 1) := by decide +kernel
theorem dX5_writes_65 : decode cX5_writes 65 = .ok (.lload 5, 2) := by decide +kernel
theorem dX5_writes_67 : decode cX5_writes 67 = .ok (.ladd, 1) := by decide +kernel
theorem dX5_writes_68 : decode cX5_writes 68 = .ok (.lastore, 1) := by decide +kernel
theorem dX5_writes_69 : decode cX5_writes 69 = .ok (.aload_n 0, 1) := by decide +kernel
theorem dX5_writes_70 : decode cX5_writes 70 = .ok (.iload_n 3, 1) := by decide +kernel
theorem dX5_writes_71 : decode cX5_writes 71 = .ok (.iconst 3, 1) := by decide +kernel
theorem dX5_writes_72 : decode cX5_writes 72 = .ok (.iadd, 1) := by decide +kernel
theorem dX5_writes_73 : decode cX5_writes 73 = .ok (.laload, 1) := by decide +kernel
theorem dX5_writes_74 : decode cX5_writes 74 = .ok (.aload_n 0, 1) := by decide +kernel
theorem dX5_writes_75 : decode cX5_writes 75 = .ok (.iload_n 3, 1) := by decide +kernel
theorem dX5_writes_76 : decode cX5_writes 76 = .ok (.iconst 0, 1) := by decide +kernel
theorem dX5_writes_77 : decode cX5_writes 77 = .ok (.iadd, 1) := by decide +kernel
theorem dX5_writes_78 : decode cX5_writes 78 = .ok (.laload, 1) := by decide +kernel
theorem dX5_writes_79 : decode cX5_writes 79 = .ok (.invokestatic 74, 3) := by decide +kernel
theorem dX5_writes_82 : decode cX5_writes 82 = .ok (.lstore 5, 2) := by decide +kernel
theorem dX5_writes_84 : decode cX5_writes 84 = .ok (.aload_n 0, 1) := by decide +kernel
theorem dX5_writes_85 : decode cX5_writes 85 = .ok (.iload_n 3, 1) := by decide +kernel
theorem dX5_writes_86 : decode cX5_writes 86 = .ok (.iconst 0, 1) := by decide +kernel
theorem dX5_writes_87 : decode cX5_writes 87 = .ok (.iadd, 1) := by decide +kernel
theorem dX5_writes_88 : decode cX5_writes 88 = .ok (.iload_n 3, 1) := by decide +kernel
theorem dX5_writes_89 : decode cX5_writes 89 = .ok (.iconst 1, 1) := by decide +kernel
theorem dX5_writes_90 : decode cX5_writes 90 = .ok (.iadd, 1) := by decide +kernel
theorem dX5_writes_91 : decode cX5_writes 91 = .ok (.lload 5, 2) := by decide +kernel
theorem dX5_writes_93 : decode cX5_writes 93 = .ok (.invokestatic 78, 3) := by decide +kernel
theorem dX5_writes_96 : decode cX5_writes 96 = .ok (.aload_n 0, 1) := by decide +kernel
theorem dX5_writes_97 : decode cX5_writes 97 = .ok (.iload_n 3, 1) := by decide +kernel
theorem dX5_writes_98 : decode cX5_writes 98 = .ok (.iconst 3, 1) := by decide +kernel
theorem dX5_writes_99 : decode cX5_writes 99 = .ok (.iadd, 1) := by decide +kernel
theorem dX5_writes_100 : decode cX5_writes 100 = .ok (.iload_n 3, 1) := by decide +kernel
theorem dX5_writes_101 : decode cX5_writes 101 = .ok (.iconst 5, 1) := by decide +kernel
theorem dX5_writes_102 : decode cX5_writes 102 = .ok (.iadd, 1) := by decide +kernel
theorem dX5_writes_103 : decode cX5_writes 103 = .ok (.lload 5, 2) := by decide +kernel
theorem dX5_writes_105 : decode cX5_writes 105 = .ok (.invokestatic 78, 3) := by decide +kernel
theorem dX5_writes_108 : decode cX5_writes 108 = .ok (.aload_n 0, 1) := by decide +kernel
theorem dX5_writes_109 : decode cX5_writes 109 = .ok (.iload_n 3, 1) := by decide +kernel
theorem dX5_writes_110 : decode cX5_writes 110 = .ok (.iconst 3, 1) := by decide +kernel
theorem dX5_writes_111 : decode cX5_writes 111 = .ok (.iadd, 1) := by decide +kernel
theorem dX5_writes_112 : decode cX5_writes 112 = .ok (.laload, 1) := by decide +kernel
theorem dX5_writes_113 : decode cX5_writes 113 = .ok (.aload_n 0, 1) := by decide +kernel
theorem dX5_writes_114 : decode cX5_writes 114 = .ok (.bipush 11, 2) := by decide +kernel
theorem dX5_writes_116 : decode cX5_writes 116 = .ok (.laload, 1) := by decide +kernel
theorem dX5_writes_117 : decode cX5_writes 117 = .ok (.lsub, 1) := by decide +kernel
theorem dX5_writes_118 : decode cX5_writes 118 = .ok (.lstore 7, 2) := by decide +kernel
theorem dX5_writes_120 : decode cX5_writes 120 = .ok (.iload_n 2, 1) := by decide +kernel
theorem dX5_writes_121 : decode cX5_writes 121 = .ok (.ifCond .eq 57, 3) := by decide +kernel
theorem dX5_writes_124 : decode cX5_writes 124 = .ok (.lload 7, 2) := by decide +kernel
theorem dX5_writes_126 : decode cX5_writes 126 = .ok (.lconst 0, 1) := by decide +kernel
theorem dX5_writes_127 : decode cX5_writes 127 = .ok (.lcmp, 1) := by decide +kernel
theorem dX5_writes_128 : decode cX5_writes 128 = .ok (.ifCond .le 50, 3) := by decide +kernel
theorem dX5_writes_131 : decode cX5_writes 131 = .ok (.aload_n 0, 1) := by decide +kernel
theorem dX5_writes_132 : decode cX5_writes 132 = .ok (.iload_n 1, 1) := by decide +kernel
theorem dX5_writes_133 : decode cX5_writes 133 = .ok (.iconst 1, 1) := by decide +kernel
theorem dX5_writes_134 : decode cX5_writes 134 = .ok (.ixor, 1) := by decide +kernel
theorem dX5_writes_135 : decode cX5_writes 135 = .ok (.invokestatic 82, 3) := by decide +kernel
theorem dX5_writes_138 : decode cX5_writes 138 = .ok (.ifCond .ne 40, 3) := by decide +kernel
theorem dX5_writes_141 : decode cX5_writes 141 = .ok (.lload 7, 2) := by decide +kernel
theorem dX5_writes_143 : decode cX5_writes 143 = .ok (.aload_n 0, 1) := by decide +kernel
theorem dX5_writes_144 : decode cX5_writes 144 = .ok (.iload 4, 2) := by decide +kernel
theorem dX5_writes_146 : decode cX5_writes 146 = .ok (.iconst 0, 1) := by decide +kernel
theorem dX5_writes_147 : decode cX5_writes 147 = .ok (.iadd, 1) := by decide +kernel
theorem dX5_writes_148 : decode cX5_writes 148 = .ok (.laload, 1) := by decide +kernel
theorem dX5_writes_149 : decode cX5_writes 149 = .ok (.invokestatic 74, 3) := by decide +kernel
theorem dX5_writes_152 : decode cX5_writes 152 = .ok (.lstore 9, 2) := by decide +kernel
theorem dX5_writes_154 : decode cX5_writes 154 = .ok (.aload_n 0, 1) := by decide +kernel
theorem dX5_writes_155 : decode cX5_writes 155 = .ok (.iload 4, 2) := by decide +kernel
theorem dX5_writes_157 : decode cX5_writes 157 = .ok (.iconst 0, 1) := by decide +kernel
theorem dX5_writes_158 : decode cX5_writes 158 = .ok (.iadd, 1) := by decide +kernel
theorem dX5_writes_159 : decode cX5_writes 159 = .ok (.iload 4, 2) := by decide +kernel
theorem dX5_writes_161 : decode cX5_writes 161 = .ok (.iconst 2, 1) := by decide +kernel
theorem dX5_writes_162 : decode cX5_writes 162 = .ok (.iadd, 1) := by decide +kernel
theorem dX5_writes_163 : decode cX5_writes 163 = .ok (.lload 9, 2) := by decide +kernel
theorem dX5_writes_165 : decode cX5_writes 165 = .ok (.invokestatic 78, 3) := by decide +kernel
theorem dX5_writes_168 : decode cX5_writes 168 = .ok (.aload_n 0, 1) := by decide +kernel
theorem dX5_writes_169 : decode cX5_writes 169 = .ok (.iload_n 3, 1) := by decide +kernel
theorem dX5_writes_170 : decode cX5_writes 170 = .ok (.iconst 3, 1) := by decide +kernel
theorem dX5_writes_171 : decode cX5_writes 171 = .ok (.iadd, 1) := by decide +kernel
theorem dX5_writes_172 : decode cX5_writes 172 = .ok (.dup2, 1) := by decide +kernel
theorem dX5_writes_173 : decode cX5_writes 173 = .ok (.laload, 1) := by decide +kernel
theorem dX5_writes_174 : decode cX5_writes 174 = .ok (.lload 9, 2) := by decide +kernel
theorem dX5_writes_176 : decode cX5_writes 176 = .ok (.lsub, 1) := by decide +kernel
theorem dX5_writes_177 : decode cX5_writes 177 = .ok (.lastore, 1) := by decide +kernel
theorem dX5_writes_178 : decode cX5_writes 178 = .ok (.return_, 1) := by decide +kernel
theorem dX5_cleans_0 : decode cX5_cleans 0 = .ok (.iload_n 1, 1) := by decide +kernel
theorem dX5_cleans_1 : decode cX5_cleans 1 = .ok (.invokestatic 45, 3) := by decide +kernel
theorem dX5_cleans_4 : decode cX5_cleans 4 = .ok (.istore_n 3, 1) := by decide +kernel
theorem dX5_cleans_5 : decode cX5_cleans 5 = .ok (.iload_n 2, 1) := by decide +kernel
theorem dX5_cleans_6 : decode cX5_cleans 6 = .ok (.ifCond .eq 24, 3) := by decide +kernel
theorem dX5_cleans_9 : decode cX5_cleans 9 = .ok (.aload_n 0, 1) := by decide +kernel
theorem dX5_cleans_10 : decode cX5_cleans 10 = .ok (.iload_n 3, 1) := by decide +kernel
theorem dX5_cleans_11 : decode cX5_cleans 11 = .ok (.iconst 3, 1) := by decide +kernel
theorem dX5_cleans_12 : decode cX5_cleans 12 = .ok (.iadd, 1) := by decide +kernel
theorem dX5_cleans_13 : decode cX5_cleans 13 = .ok (.laload, 1) := by decide +kernel
theorem dX5_cleans_14 : decode cX5_cleans 14 = .ok (.aload_n 0, 1) := by decide +kernel
theorem dX5_cleans_15 : decode cX5_cleans 15 = .ok (.bipush 11, 2) := by decide +kernel
theorem dX5_cleans_17 : decode cX5_cleans 17 = .ok (.laload, 1) := by decide +kernel
theorem dX5_cleans_18 : decode cX5_cleans 18 = .ok (.lcmp, 1) := by decide +kernel
theorem dX5_cleans_19 : decode cX5_cleans 19 = .ok (.ifCond .le 7, 3) := by decide +kernel
theorem dX5_cleans_22 : decode cX5_cleans 22 = .ok (.iconst 1, 1) := by decide +kernel
theorem dX5_cleans_23 : decode cX5_cleans 23 = .ok (.goto 35, 3) := by decide +kernel
theorem dX5_cleans_26 : decode cX5_cleans 26 = .ok (.iconst 0, 1) := by decide +kernel
theorem dX5_cleans_27 : decode cX5_cleans 27 = .ok (.goto 31, 3) := by decide +kernel
theorem dX5_cleans_30 : decode cX5_cleans 30 = .ok (.aload_n 0, 1) := by decide +kernel
theorem dX5_cleans_31 : decode cX5_cleans 31 = .ok (.iload_n 3, 1) := by decide +kernel
theorem dX5_cleans_32 : decode cX5_cleans 32 = .ok (.iconst 4, 1) := by decide +kernel
theorem dX5_cleans_33 : decode cX5_cleans 33 = .ok (.iadd, 1) := by decide +kernel
theorem dX5_cleans_34 : decode cX5_cleans 34 = .ok (.laload, 1) := by decide +kernel
theorem dX5_cleans_35 : decode cX5_cleans 35 = .ok (.lconst 1, 1) := by decide +kernel
theorem dX5_cleans_36 : decode cX5_cleans 36 = .ok (.lcmp, 1) := by decide +kernel
theorem dX5_cleans_37 : decode cX5_cleans 37 = .ok (.ifCond .eq 16, 3) := by decide +kernel
theorem dX5_cleans_40 : decode cX5_cleans 40 = .ok (.aload_n 0, 1) := by decide +kernel
theorem dX5_cleans_41 : decode cX5_cleans 41 = .ok (.iload_n 3, 1) := by decide +kernel
theorem dX5_cleans_42 : decode cX5_cleans 42 = .ok (.iconst 0, 1) := by decide +kernel
theorem dX5_cleans_43 : decode cX5_cleans 43 = .ok (.iadd, 1) := by decide +kernel
theorem dX5_cleans_44 : decode cX5_cleans 44 = .ok (.laload, 1) := by decide +kernel
theorem dX5_cleans_45 : decode cX5_cleans 45 = .ok (.aload_n 0, 1) := by decide +kernel
theorem dX5_cleans_46 : decode cX5_cleans 46 = .ok (.bipush 8, 2) := by decide +kernel
theorem dX5_cleans_48 : decode cX5_cleans 48 = .ok (.laload, 1) := by decide +kernel
theorem dX5_cleans_49 : decode cX5_cleans 49 = .ok (.lcmp, 1) := by decide +kernel
theorem dX5_cleans_50 : decode cX5_cleans 50 = .ok (.ifCond .ge 7, 3) := by decide +kernel
theorem dX5_cleans_53 : decode cX5_cleans 53 = .ok (.iconst 1, 1) := by decide +kernel
theorem dX5_cleans_54 : decode cX5_cleans 54 = .ok (.goto 4, 3) := by decide +kernel
theorem dX5_cleans_57 : decode cX5_cleans 57 = .ok (.iconst 0, 1) := by decide +kernel
theorem dX5_cleans_58 : decode cX5_cleans 58 = .ok (.istore 4, 2) := by decide +kernel
theorem dX5_cleans_60 : decode cX5_cleans 60 = .ok (.iload 4, 2) := by decide +kernel
theorem dX5_cleans_62 : decode cX5_cleans 62 = .ok (.ifCond .eq 17, 3) := by decide +kernel
theorem dX5_cleans_65 : decode cX5_cleans 65 = .ok (.aload_n 0, 1) := by decide +kernel
theorem dX5_cleans_66 : decode cX5_cleans 66 = .ok (.iload_n 3, 1) := by decide +kernel
theorem dX5_cleans_67 : decode cX5_cleans 67 = .ok (.iconst 1, 1) := by decide +kernel
theorem dX5_cleans_68 : decode cX5_cleans 68 = .ok (.iadd, 1) := by decide +kernel
theorem dX5_cleans_69 : decode cX5_cleans 69 = .ok (.laload, 1) := by decide +kernel
theorem dX5_cleans_70 : decode cX5_cleans 70 = .ok (.lconst 0, 1) := by decide +kernel
theorem dX5_cleans_71 : decode cX5_cleans 71 = .ok (.lcmp, 1) := by decide +kernel
theorem dX5_cleans_72 : decode cX5_cleans 72 = .ok (.ifCond .le 7, 3) := by decide +kernel
theorem dX5_cleans_75 : decode cX5_cleans 75 = .ok (.iconst 1, 1) := by decide +kernel
theorem dX5_cleans_76 : decode cX5_cleans 76 = .ok (.goto 4, 3) := by decide +kernel
theorem dX5_cleans_79 : decode cX5_cleans 79 = .ok (.iconst 0, 1) := by decide +kernel
theorem dX5_cleans_80 : decode cX5_cleans 80 = .ok (.istore 5, 2) := by decide +kernel
theorem dX5_cleans_82 : decode cX5_cleans 82 = .ok (.iload 5, 2) := by decide +kernel
theorem dX5_cleans_84 : decode cX5_cleans 84 = .ok (.ifCond .eq 35, 3) := by decide +kernel
theorem dX5_cleans_87 : decode cX5_cleans 87 = .ok (.aload_n 0, 1) := by decide +kernel
theorem dX5_cleans_88 : decode cX5_cleans 88 = .ok (.iload_n 3, 1) := by decide +kernel
theorem dX5_cleans_89 : decode cX5_cleans 89 = .ok (.iconst 1, 1) := by decide +kernel
theorem dX5_cleans_90 : decode cX5_cleans 90 = .ok (.iadd, 1) := by decide +kernel
theorem dX5_cleans_91 : decode cX5_cleans 91 = .ok (.iload_n 3, 1) := by decide +kernel
theorem dX5_cleans_92 : decode cX5_cleans 92 = .ok (.iconst 0, 1) := by decide +kernel
theorem dX5_cleans_93 : decode cX5_cleans 93 = .ok (.iadd, 1) := by decide +kernel
theorem dX5_cleans_94 : decode cX5_cleans 94 = .ok (.aload_n 0, 1) := by decide +kernel
theorem dX5_cleans_95 : decode cX5_cleans 95 = .ok (.bipush 10, 2) := by decide +kernel
theorem dX5_cleans_97 : decode cX5_cleans 97 = .ok (.laload, 1) := by decide +kernel
theorem dX5_cleans_98 : decode cX5_cleans 98 = .ok (.aload_n 0, 1) := by decide +kernel
theorem dX5_cleans_99 : decode cX5_cleans 99 = .ok (.iload_n 3, 1) := by decide +kernel
theorem dX5_cleans_100 : decode cX5_cleans 100 = .ok (.iconst 1, 1) := by decide +kernel
theorem dX5_cleans_101 : decode cX5_cleans 101 = .ok (.iadd, 1) := by decide +kernel
theorem dX5_cleans_102 : decode cX5_cleans 102 = .ok (.laload, 1) := by decide +kernel
theorem dX5_cleans_103 : decode cX5_cleans 103 = .ok (.invokestatic 74, 3) := by decide +kernel
theorem dX5_cleans_106 : decode cX5_cleans 106 = .ok (.invokestatic 78, 3) := by decide +kernel
theorem dX5_cleans_109 : decode cX5_cleans 109 = .ok (.aload_n 0, 1) := by decide +kernel
theorem dX5_cleans_110 : decode cX5_cleans 110 = .ok (.iload_n 3, 1) := by decide +kernel
theorem dX5_cleans_111 : decode cX5_cleans 111 = .ok (.bipush 6, 2) := by decide +kernel
theorem dX5_cleans_113 : decode cX5_cleans 113 = .ok (.iadd, 1) := by decide +kernel
theorem dX5_cleans_114 : decode cX5_cleans 114 = .ok (.dup2, 1) := by decide +kernel
theorem dX5_cleans_115 : decode cX5_cleans 115 = .ok (.laload, 1) := by decide +kernel
theorem dX5_cleans_116 : decode cX5_cleans 116 = .ok (.lconst 1, 1) := by decide +kernel
theorem dX5_cleans_117 : decode cX5_cleans 117 = .ok (.ladd, 1) := by decide +kernel
theorem dX5_cleans_118 : decode cX5_cleans 118 = .ok (.lastore, 1) := by decide +kernel
theorem dX5_cleans_119 : decode cX5_cleans 119 = .ok (.iload 5, 2) := by decide +kernel
theorem dX5_cleans_121 : decode cX5_cleans 121 = .ok (.ifCond .eq 104, 3) := by decide +kernel
theorem dX5_cleans_124 : decode cX5_cleans 124 = .ok (.iload_n 2, 1) := by decide +kernel
theorem dX5_cleans_125 : decode cX5_cleans 125 = .ok (.ifCond .eq 100, 3) := by decide +kernel
theorem dX5_cleans_128 : decode cX5_cleans 128 = .ok (.aload_n 0, 1) := by decide +kernel
theorem dX5_cleans_129 : decode cX5_cleans 129 = .ok (.iload_n 3, 1) := by decide +kernel
theorem dX5_cleans_130 : decode cX5_cleans 130 = .ok (.bipush 7, 2) := by decide +kernel
theorem dX5_cleans_132 : decode cX5_cleans 132 = .ok (.iadd, 1) := by decide +kernel
theorem dX5_cleans_133 : decode cX5_cleans 133 = .ok (.dup2, 1) := by decide +kernel
theorem dX5_cleans_134 : decode cX5_cleans 134 = .ok (.laload, 1) := by decide +kernel
theorem dX5_cleans_135 : decode cX5_cleans 135 = .ok (.lconst 1, 1) := by decide +kernel
theorem dX5_cleans_136 : decode cX5_cleans 136 = .ok (.ladd, 1) := by decide +kernel
theorem dX5_cleans_137 : decode cX5_cleans 137 = .ok (.lastore, 1) := by decide +kernel
theorem dX5_cleans_138 : decode cX5_cleans 138 = .ok (.aload_n 0, 1) := by decide +kernel
theorem dX5_cleans_139 : decode cX5_cleans 139 = .ok (.bipush 56, 2) := by decide +kernel
theorem dX5_cleans_141 : decode cX5_cleans 141 = .ok (.bipush 100, 2) := by decide +kernel
theorem dX5_cleans_143 : decode cX5_cleans 143 = .ok (.iload_n 1, 1) := by decide +kernel
theorem dX5_cleans_144 : decode cX5_cleans 144 = .ok (.imul, 1) := by decide +kernel
theorem dX5_cleans_145 : decode cX5_cleans 145 = .ok (.iadd, 1) := by decide +kernel
theorem dX5_cleans_146 : decode cX5_cleans 146 = .ok (.aload_n 0, 1) := by decide +kernel
theorem dX5_cleans_147 : decode cX5_cleans 147 = .ok (.iconst 0, 1) := by decide +kernel
theorem dX5_cleans_148 : decode cX5_cleans 148 = .ok (.laload, 1) := by decide +kernel
theorem dX5_cleans_149 : decode cX5_cleans 149 = .ok (.ldc2_w 33, 3) := by decide +kernel
theorem dX5_cleans_152 : decode cX5_cleans 152 = .ok (.ldiv, 1) := by decide +kernel
theorem dX5_cleans_153 : decode cX5_cleans 153 = .ok (.l2i, 1) := by decide +kernel
theorem dX5_cleans_154 : decode cX5_cleans 154 = .ok (.iadd, 1) := by decide +kernel
theorem dX5_cleans_155 : decode cX5_cleans 155 = .ok (.ldc2_w 49, 3) := by decide +kernel
theorem dX5_cleans_158 : decode cX5_cleans 158 = .ok (.lastore, 1) := by decide +kernel
theorem dX5_cleans_159 : decode cX5_cleans 159 = .ok (.aload_n 0, 1) := by decide +kernel
theorem dX5_cleans_160 : decode cX5_cleans 160 = .ok (.iconst 3, 1) := by decide +kernel
theorem dX5_cleans_161 : decode cX5_cleans 161 = .ok (.laload, 1) := by decide +kernel
theorem dX5_cleans_162 : decode cX5_cleans 162 = .ok (.lconst 0, 1) := by decide +kernel
theorem dX5_cleans_163 : decode cX5_cleans 163 = .ok (.lcmp, 1) := by decide +kernel
theorem dX5_cleans_164 : decode cX5_cleans 164 = .ok (.ifCond .le 7, 3) := by decide +kernel
theorem dX5_cleans_167 : decode cX5_cleans 167 = .ok (.iconst 1, 1) := by decide +kernel
theorem dX5_cleans_168 : decode cX5_cleans 168 = .ok (.goto 4, 3) := by decide +kernel
theorem dX5_cleans_171 : decode cX5_cleans 171 = .ok (.iconst 0, 1) := by decide +kernel
theorem dX5_cleans_172 : decode cX5_cleans 172 = .ok (.istore 6, 2) := by decide +kernel
theorem dX5_cleans_174 : decode cX5_cleans 174 = .ok (.aload_n 0, 1) := by decide +kernel
theorem dX5_cleans_175 : decode cX5_cleans 175 = .ok (.iconst 3, 1) := by decide +kernel
theorem dX5_cleans_176 : decode cX5_cleans 176 = .ok (.dup2, 1) := by decide +kernel
theorem dX5_cleans_177 : decode cX5_cleans 177 = .ok (.laload, 1) := by decide +kernel
theorem dX5_cleans_178 : decode cX5_cleans 178 = .ok (.iload 6, 2) := by decide +kernel
theorem dX5_cleans_180 : decode cX5_cleans 180 = .ok (.ifCond .eq 7, 3) := by decide +kernel
theorem dX5_cleans_183 : decode cX5_cleans 183 = .ok (.lconst 1, 1) := by decide +kernel
theorem dX5_cleans_184 : decode cX5_cleans 184 = .ok (.goto 4, 3) := by decide +kernel
theorem dX5_cleans_187 : decode cX5_cleans 187 = .ok (.lconst 0, 1) := by decide +kernel
theorem dX5_cleans_188 : decode cX5_cleans 188 = .ok (.lsub, 1) := by decide +kernel
theorem dX5_cleans_189 : decode cX5_cleans 189 = .ok (.lastore, 1) := by decide +kernel
theorem dX5_cleans_190 : decode cX5_cleans 190 = .ok (.aload_n 0, 1) := by decide +kernel
theorem dX5_cleans_191 : decode cX5_cleans 191 = .ok (.iconst 4, 1) := by decide +kernel
theorem dX5_cleans_192 : decode cX5_cleans 192 = .ok (.dup2, 1) := by decide +kernel
theorem dX5_cleans_193 : decode cX5_cleans 193 = .ok (.laload, 1) := by decide +kernel
theorem dX5_cleans_194 : decode cX5_cleans 194 = .ok (.iload 6, 2) := by decide +kernel
theorem dX5_cleans_196 : decode cX5_cleans 196 = .ok (.ifCond .eq 7, 3) := by decide +kernel
theorem dX5_cleans_199 : decode cX5_cleans 199 = .ok (.lconst 1, 1) := by decide +kernel
theorem dX5_cleans_200 : decode cX5_cleans 200 = .ok (.goto 4, 3) := by decide +kernel
theorem dX5_cleans_203 : decode cX5_cleans 203 = .ok (.lconst 0, 1) := by decide +kernel
theorem dX5_cleans_204 : decode cX5_cleans 204 = .ok (.ladd, 1) := by decide +kernel
theorem dX5_cleans_205 : decode cX5_cleans 205 = .ok (.lastore, 1) := by decide +kernel
theorem dX5_cleans_206 : decode cX5_cleans 206 = .ok (.aload_n 0, 1) := by decide +kernel
theorem dX5_cleans_207 : decode cX5_cleans 207 = .ok (.iconst 2, 1) := by decide +kernel
theorem dX5_cleans_208 : decode cX5_cleans 208 = .ok (.dup2, 1) := by decide +kernel
theorem dX5_cleans_209 : decode cX5_cleans 209 = .ok (.laload, 1) := by decide +kernel
theorem dX5_cleans_210 : decode cX5_cleans 210 = .ok (.iload 6, 2) := by decide +kernel
theorem dX5_cleans_212 : decode cX5_cleans 212 = .ok (.ifCond .eq 7, 3) := by decide +kernel
theorem dX5_cleans_215 : decode cX5_cleans 215 = .ok (.lconst 0, 1) := by decide +kernel
theorem dX5_cleans_216 : decode cX5_cleans 216 = .ok (.goto 7, 3) := by decide +kernel
theorem dX5_cleans_219 : decode cX5_cleans 219 = .ok (.aload_n 0, 1) := by decide +kernel
theorem dX5_cleans_220 : decode cX5_cleans 220 = .ok (.bipush 6, 2) := by decide +kernel
theorem dX5_cleans_222 : decode cX5_cleans 222 = .ok (.laload, 1) := by decide +kernel
theorem dX5_cleans_223 : decode cX5_cleans 223 = .ok (.ladd, 1) := by decide +kernel
theorem dX5_cleans_224 : decode cX5_cleans 224 = .ok (.lastore, 1) := by decide +kernel
theorem dX5_cleans_225 : decode cX5_cleans 225 = .ok (.aload_n 0, 1) := by decide +kernel
theorem dX5_cleans_226 : decode cX5_cleans 226 = .ok (.iload_n 3, 1) := by decide +kernel
theorem dX5_cleans_227 : decode cX5_cleans 227 = .ok (.iconst 4, 1) := by decide +kernel
theorem dX5_cleans_228 : decode cX5_cleans 228 = .ok (.iadd, 1) := by decide +kernel
theorem dX5_cleans_229 : decode cX5_cleans 229 = .ok (.iload 5, 2) := by decide +kernel
theorem dX5_cleans_231 : decode cX5_cleans 231 = .ok (.ifCond .eq 34, 3) := by decide +kernel
theorem dX5_cleans_234 : decode cX5_cleans 234 = .ok (.iload_n 2, 1) := by decide +kernel
theorem dX5_cleans_235 : decode cX5_cleans 235 = .ok (.ifCond .ne 30, 3) := by decide +kernel
theorem dX5_cleans_238 : decode cX5_cleans 238 = .ok (.aload_n 0, 1) := by decide +kernel
theorem dX5_cleans_239 : decode cX5_cleans 239 = .ok (.iload_n 3, 1) := by decide +kernel
theorem dX5_cleans_240 : decode cX5_cleans 240 = .ok (.iconst 0, 1) := by decide +kernel
theorem dX5_cleans_241 : decode cX5_cleans 241 = .ok (.iadd, 1) := by decide +kernel
theorem dX5_cleans_242 : decode cX5_cleans 242 = .ok (.laload, 1) := by decide +kernel
theorem dX5_cleans_243 : decode cX5_cleans 243 = .ok (.aload_n 0, 1) := by decide +kernel
theorem dX5_cleans_244 : decode cX5_cleans 244 = .ok (.bipush 9, 2) := by decide +kernel
theorem dX5_cleans_246 : decode cX5_cleans 246 = .ok (.laload, 1) := by decide +kernel
theorem dX5_cleans_247 : decode cX5_cleans 247 = .ok (.lcmp, 1) := by decide +kernel
theorem dX5_cleans_248 : decode cX5_cleans 248 = .ok (.ifCond .ge 17, 3) := by decide +kernel
theorem dX5_cleans_251 : decode cX5_cleans 251 = .ok (.aload_n 0, 1) := by decide +kernel
theorem dX5_cleans_252 : decode cX5_cleans 252 = .ok (.iload_n 3, 1) := by decide +kernel
theorem dX5_cleans_253 : decode cX5_cleans 253 = .ok (.iconst 1, 1) := by decide +kernel
theorem dX5_cleans_254 : decode cX5_cleans 254 = .ok (.iadd, 1) := by decide +kernel
theorem dX5_cleans_255 : decode cX5_cleans 255 = .ok (.laload, 1) := by decide +kernel
theorem dX5_cleans_256 : decode cX5_cleans 256 = .ok (.lconst 0, 1) := by decide +kernel
theorem dX5_cleans_257 : decode cX5_cleans 257 = .ok (.lcmp, 1) := by decide +kernel
theorem dX5_cleans_258 : decode cX5_cleans 258 = .ok (.ifCond .le 7, 3) := by decide +kernel
theorem dX5_cleans_261 : decode cX5_cleans 261 = .ok (.lconst 1, 1) := by decide +kernel
theorem dX5_cleans_262 : decode cX5_cleans 262 = .ok (.goto 4, 3) := by decide +kernel
theorem dX5_cleans_265 : decode cX5_cleans 265 = .ok (.lconst 0, 1) := by decide +kernel
theorem dX5_cleans_266 : decode cX5_cleans 266 = .ok (.lastore, 1) := by decide +kernel
theorem dX5_cleans_267 : decode cX5_cleans 267 = .ok (.return_, 1) := by decide +kernel
theorem dX5_passesOne_0 : decode cX5_passesOne 0 = .ok (.iconst 0, 1) := by decide +kernel
theorem dX5_passesOne_1 : decode cX5_passesOne 1 = .ok (.istore_n 1, 1) := by decide +kernel
theorem dX5_passesOne_2 : decode cX5_passesOne 2 = .ok (.iload_n 1, 1) := by decide +kernel
theorem dX5_passesOne_3 : decode cX5_passesOne 3 = .ok (.iconst 4, 1) := by decide +kernel
theorem dX5_passesOne_4 : decode cX5_passesOne 4 = .ok (.if_icmp .ge 82, 3) := by decide +kernel
theorem dX5_passesOne_7 : decode cX5_passesOne 7 = .ok (.iload_n 1, 1) := by decide +kernel
theorem dX5_passesOne_8 : decode cX5_passesOne 8 = .ok (.invokestatic 45, 3) := by decide +kernel
theorem dX5_passesOne_11 : decode cX5_passesOne 11 = .ok (.istore_n 2, 1) := by decide +kernel
theorem dX5_passesOne_12 : decode cX5_passesOne 12 = .ok (.aload_n 0, 1) := by decide +kernel
theorem dX5_passesOne_13 : decode cX5_passesOne 13 = .ok (.iconst 0, 1) := by decide +kernel
theorem dX5_passesOne_14 : decode cX5_passesOne 14 = .ok (.laload, 1) := by decide +kernel
theorem dX5_passesOne_15 : decode cX5_passesOne 15 = .ok (.ldc2_w 33, 3) := by decide +kernel
theorem dX5_passesOne_18 : decode cX5_passesOne 18 = .ok (.lrem, 1) := by decide +kernel
theorem dX5_passesOne_19 : decode cX5_passesOne 19 = .ok (.lconst 0, 1) := by decide +kernel
theorem dX5_passesOne_20 : decode cX5_passesOne 20 = .ok (.lcmp, 1) := by decide +kernel
theorem dX5_passesOne_21 : decode cX5_passesOne 21 = .ok (.ifCond .ne 8, 3) := by decide +kernel
theorem dX5_passesOne_24 : decode cX5_passesOne 24 = .ok (.aload_n 0, 1) := by decide +kernel
theorem dX5_passesOne_25 : decode cX5_passesOne 25 = .ok (.iload_n 1, 1) := by decide +kernel
theorem dX5_passesOne_26 : decode cX5_passesOne 26 = .ok (.invokestatic 86, 3) := by decide +kernel
theorem dX5_passesOne_29 : decode cX5_passesOne 29 = .ok (.aload_n 0, 1) := by decide +kernel
theorem dX5_passesOne_30 : decode cX5_passesOne 30 = .ok (.iload_n 2, 1) := by decide +kernel
theorem dX5_passesOne_31 : decode cX5_passesOne 31 = .ok (.iconst 3, 1) := by decide +kernel
theorem dX5_passesOne_32 : decode cX5_passesOne 32 = .ok (.iadd, 1) := by decide +kernel
theorem dX5_passesOne_33 : decode cX5_passesOne 33 = .ok (.dup2, 1) := by decide +kernel
theorem dX5_passesOne_34 : decode cX5_passesOne 34 = .ok (.laload, 1) := by decide +kernel
theorem dX5_passesOne_35 : decode cX5_passesOne 35 = .ok (.aload_n 0, 1) := by decide +kernel
theorem dX5_passesOne_36 : decode cX5_passesOne 36 = .ok (.iconst 0, 1) := by decide +kernel
theorem dX5_passesOne_37 : decode cX5_passesOne 37 = .ok (.laload, 1) := by decide +kernel
theorem dX5_passesOne_38 : decode cX5_passesOne 38 = .ok (.aload_n 0, 1) := by decide +kernel
theorem dX5_passesOne_39 : decode cX5_passesOne 39 = .ok (.iload_n 2, 1) := by decide +kernel
theorem dX5_passesOne_40 : decode cX5_passesOne 40 = .ok (.bipush 8, 2) := by decide +kernel
theorem dX5_passesOne_42 : decode cX5_passesOne 42 = .ok (.iadd, 1) := by decide +kernel
theorem dX5_passesOne_43 : decode cX5_passesOne 43 = .ok (.laload, 1) := by decide +kernel
theorem dX5_passesOne_44 : decode cX5_passesOne 44 = .ok (.lrem, 1) := by decide +kernel
theorem dX5_passesOne_45 : decode cX5_passesOne 45 = .ok (.lconst 0, 1) := by decide +kernel
theorem dX5_passesOne_46 : decode cX5_passesOne 46 = .ok (.lcmp, 1) := by decide +kernel
theorem dX5_passesOne_47 : decode cX5_passesOne 47 = .ok (.ifCond .ne 12, 3) := by decide +kernel
theorem dX5_passesOne_50 : decode cX5_passesOne 50 = .ok (.aload_n 0, 1) := by decide +kernel
theorem dX5_passesOne_51 : decode cX5_passesOne 51 = .ok (.iload_n 2, 1) := by decide +kernel
theorem dX5_passesOne_52 : decode cX5_passesOne 52 = .ok (.bipush 9, 2) := by decide +kernel
theorem dX5_passesOne_54 : decode cX5_passesOne 54 = .ok (.iadd, 1) := by decide +kernel
theorem dX5_passesOne_55 : decode cX5_passesOne 55 = .ok (.laload, 1) := by decide +kernel
theorem dX5_passesOne_56 : decode cX5_passesOne 56 = .ok (.goto 4, 3) := by decide +kernel
theorem dX5_passesOne_59 : decode cX5_passesOne 59 = .ok (.lconst 0, 1) := by decide +kernel
theorem dX5_passesOne_60 : decode cX5_passesOne 60 = .ok (.ladd, 1) := by decide +kernel
theorem dX5_passesOne_61 : decode cX5_passesOne 61 = .ok (.lastore, 1) := by decide +kernel
theorem dX5_passesOne_62 : decode cX5_passesOne 62 = .ok (.aload_n 0, 1) := by decide +kernel
theorem dX5_passesOne_63 : decode cX5_passesOne 63 = .ok (.iload_n 1, 1) := by decide +kernel
