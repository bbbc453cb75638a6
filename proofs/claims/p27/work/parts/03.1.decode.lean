theorem dX3_settleHours_29 : decode cX3_settleHours 29 = .ok (.iaload, 1) := by decide +kernel
theorem dX3_settleHours_30 : decode cX3_settleHours 30 = .ok (.iadd, 1) := by decide +kernel
theorem dX3_settleHours_31 : decode cX3_settleHours 31 = .ok (.putfield 45, 3) := by decide +kernel
theorem dX3_settleHours_34 : decode cX3_settleHours 34 = .ok (.iload_n 3, 1) := by decide +kernel
theorem dX3_settleHours_35 : decode cX3_settleHours 35 = .ok (.ifCond .eq 18, 3) := by decide +kernel
theorem dX3_settleHours_38 : decode cX3_settleHours 38 = .ok (.aload_n 0, 1) := by decide +kernel
theorem dX3_settleHours_39 : decode cX3_settleHours 39 = .ok (.dup, 1) := by decide +kernel
theorem dX3_settleHours_40 : decode cX3_settleHours 40 = .ok (.getfield 39, 3) := by decide +kernel
theorem dX3_settleHours_43 : decode cX3_settleHours 43 = .ok (.aload_n 0, 1) := by decide +kernel
theorem dX3_settleHours_44 : decode cX3_settleHours 44 = .ok (.getfield 9, 3) := by decide +kernel
theorem dX3_settleHours_47 : decode cX3_settleHours 47 = .ok (.iconst 0, 1) := by decide +kernel
theorem dX3_settleHours_48 : decode cX3_settleHours 48 = .ok (.iaload, 1) := by decide +kernel
theorem dX3_settleHours_49 : decode cX3_settleHours 49 = .ok (.iadd, 1) := by decide +kernel
theorem dX3_settleHours_50 : decode cX3_settleHours 50 = .ok (.putfield 39, 3) := by decide +kernel
theorem dX3_settleHours_53 : decode cX3_settleHours 53 = .ok (.return_, 1) := by decide +kernel
theorem dX3_cleanUp_0 : decode cX3_cleanUp 0 = .ok (.iload_n 2, 1) := by decide +kernel
theorem dX3_cleanUp_1 : decode cX3_cleanUp 1 = .ok (.ifCond .eq 25, 3) := by decide +kernel
theorem dX3_cleanUp_4 : decode cX3_cleanUp 4 = .ok (.aload_n 1, 1) := by decide +kernel
theorem dX3_cleanUp_5 : decode cX3_cleanUp 5 = .ok (.getfield 67, 3) := by decide +kernel
theorem dX3_cleanUp_8 : decode cX3_cleanUp 8 = .ok (.aload_n 0, 1) := by decide +kernel
theorem dX3_cleanUp_9 : decode cX3_cleanUp 9 = .ok (.getfield 9, 3) := by decide +kernel
theorem dX3_cleanUp_12 : decode cX3_cleanUp 12 = .ok (.bipush 6, 2) := by decide +kernel
theorem dX3_cleanUp_14 : decode cX3_cleanUp 14 = .ok (.iaload, 1) := by decide +kernel
theorem dX3_cleanUp_15 : decode cX3_cleanUp 15 = .ok (.if_icmp .le 7, 3) := by decide +kernel
theorem dX3_cleanUp_18 : decode cX3_cleanUp 18 = .ok (.iconst 1, 1) := by decide +kernel
theorem dX3_cleanUp_19 : decode cX3_cleanUp 19 = .ok (.goto 32, 3) := by decide +kernel
theorem dX3_cleanUp_22 : decode cX3_cleanUp 22 = .ok (.iconst 0, 1) := by decide +kernel
theorem dX3_cleanUp_23 : decode cX3_cleanUp 23 = .ok (.goto 28, 3) := by decide +kernel
theorem dX3_cleanUp_26 : decode cX3_cleanUp 26 = .ok (.aload_n 1, 1) := by decide +kernel
theorem dX3_cleanUp_27 : decode cX3_cleanUp 27 = .ok (.getfield 138, 3) := by decide +kernel
theorem dX3_cleanUp_30 : decode cX3_cleanUp 30 = .ok (.ifCond .ne 16, 3) := by decide +kernel
theorem dX3_cleanUp_33 : decode cX3_cleanUp 33 = .ok (.aload_n 1, 1) := by decide +kernel
theorem dX3_cleanUp_34 : decode cX3_cleanUp 34 = .ok (.getfield 142, 3) := by decide +kernel
theorem dX3_cleanUp_37 : decode cX3_cleanUp 37 = .ok (.aload_n 0, 1) := by decide +kernel
theorem dX3_cleanUp_38 : decode cX3_cleanUp 38 = .ok (.getfield 9, 3) := by decide +kernel
theorem dX3_cleanUp_41 : decode cX3_cleanUp 41 = .ok (.iconst 3, 1) := by decide +kernel
theorem dX3_cleanUp_42 : decode cX3_cleanUp 42 = .ok (.iaload, 1) := by decide +kernel
theorem dX3_cleanUp_43 : decode cX3_cleanUp 43 = .ok (.if_icmp .ge 7, 3) := by decide +kernel
theorem dX3_cleanUp_46 : decode cX3_cleanUp 46 = .ok (.iconst 1, 1) := by decide +kernel
theorem dX3_cleanUp_47 : decode cX3_cleanUp 47 = .ok (.goto 4, 3) := by decide +kernel
theorem dX3_cleanUp_50 : decode cX3_cleanUp 50 = .ok (.iconst 0, 1) := by decide +kernel
theorem dX3_cleanUp_51 : decode cX3_cleanUp 51 = .ok (.istore_n 3, 1) := by decide +kernel
theorem dX3_cleanUp_52 : decode cX3_cleanUp 52 = .ok (.iload_n 3, 1) := by decide +kernel
theorem dX3_cleanUp_53 : decode cX3_cleanUp 53 = .ok (.ifCond .eq 14, 3) := by decide +kernel
theorem dX3_cleanUp_56 : decode cX3_cleanUp 56 = .ok (.aload_n 1, 1) := by decide +kernel
theorem dX3_cleanUp_57 : decode cX3_cleanUp 57 = .ok (.getfield 145, 3) := by decide +kernel
theorem dX3_cleanUp_60 : decode cX3_cleanUp 60 = .ok (.ifCond .le 7, 3) := by decide +kernel
theorem dX3_cleanUp_63 : decode cX3_cleanUp 63 = .ok (.iconst 1, 1) := by decide +kernel
theorem dX3_cleanUp_64 : decode cX3_cleanUp 64 = .ok (.goto 4, 3) := by decide +kernel
theorem dX3_cleanUp_67 : decode cX3_cleanUp 67 = .ok (.iconst 0, 1) := by decide +kernel
theorem dX3_cleanUp_68 : decode cX3_cleanUp 68 = .ok (.istore 4, 2) := by decide +kernel
theorem dX3_cleanUp_70 : decode cX3_cleanUp 70 = .ok (.iload 4, 2) := by decide +kernel
theorem dX3_cleanUp_72 : decode cX3_cleanUp 72 = .ok (.ifCond .eq 20, 3) := by decide +kernel
theorem dX3_cleanUp_75 : decode cX3_cleanUp 75 = .ok (.aload_n 1, 1) := by decide +kernel
theorem dX3_cleanUp_76 : decode cX3_cleanUp 76 = .ok (.aload_n 0, 1) := by decide +kernel
theorem dX3_cleanUp_77 : decode cX3_cleanUp 77 = .ok (.getfield 9, 3) := by decide +kernel
theorem dX3_cleanUp_80 : decode cX3_cleanUp 80 = .ok (.iconst 5, 1) := by decide +kernel
theorem dX3_cleanUp_81 : decode cX3_cleanUp 81 = .ok (.iaload, 1) := by decide +kernel
theorem dX3_cleanUp_82 : decode cX3_cleanUp 82 = .ok (.aload_n 1, 1) := by decide +kernel
theorem dX3_cleanUp_83 : decode cX3_cleanUp 83 = .ok (.getfield 145, 3) := by decide +kernel
theorem dX3_cleanUp_86 : decode cX3_cleanUp 86 = .ok (.invokestatic 148, 3) := by decide +kernel
theorem dX3_cleanUp_89 : decode cX3_cleanUp 89 = .ok (.invokevirtual 154, 3) := by decide +kernel
theorem dX3_cleanUp_92 : decode cX3_cleanUp 92 = .ok (.aload_n 1, 1) := by decide +kernel
theorem dX3_cleanUp_93 : decode cX3_cleanUp 93 = .ok (.iload 4, 2) := by decide +kernel
theorem dX3_cleanUp_95 : decode cX3_cleanUp 95 = .ok (.ifCond .eq 31, 3) := by decide +kernel
theorem dX3_cleanUp_98 : decode cX3_cleanUp 98 = .ok (.iload_n 2, 1) := by decide +kernel
theorem dX3_cleanUp_99 : decode cX3_cleanUp 99 = .ok (.ifCond .ne 27, 3) := by decide +kernel
theorem dX3_cleanUp_102 : decode cX3_cleanUp 102 = .ok (.aload_n 1, 1) := by decide +kernel
theorem dX3_cleanUp_103 : decode cX3_cleanUp 103 = .ok (.getfield 142, 3) := by decide +kernel
theorem dX3_cleanUp_106 : decode cX3_cleanUp 106 = .ok (.aload_n 0, 1) := by decide +kernel
theorem dX3_cleanUp_107 : decode cX3_cleanUp 107 = .ok (.getfield 9, 3) := by decide +kernel
theorem dX3_cleanUp_110 : decode cX3_cleanUp 110 = .ok (.iconst 4, 1) := by decide +kernel
theorem dX3_cleanUp_111 : decode cX3_cleanUp 111 = .ok (.iaload, 1) := by decide +kernel
theorem dX3_cleanUp_112 : decode cX3_cleanUp 112 = .ok (.if_icmp .ge 14, 3) := by decide +kernel
theorem dX3_cleanUp_115 : decode cX3_cleanUp 115 = .ok (.aload_n 1, 1) := by decide +kernel
theorem dX3_cleanUp_116 : decode cX3_cleanUp 116 = .ok (.getfield 145, 3) := by decide +kernel
theorem dX3_cleanUp_119 : decode cX3_cleanUp 119 = .ok (.ifCond .le 7, 3) := by decide +kernel
theorem dX3_cleanUp_122 : decode cX3_cleanUp 122 = .ok (.iconst 1, 1) := by decide +kernel
theorem dX3_cleanUp_123 : decode cX3_cleanUp 123 = .ok (.goto 4, 3) := by decide +kernel
theorem dX3_cleanUp_126 : decode cX3_cleanUp 126 = .ok (.iconst 0, 1) := by decide +kernel
theorem dX3_cleanUp_127 : decode cX3_cleanUp 127 = .ok (.putfield 138, 3) := by decide +kernel
theorem dX3_cleanUp_130 : decode cX3_cleanUp 130 = .ok (.iload 4, 2) := by decide +kernel
theorem dX3_cleanUp_132 : decode cX3_cleanUp 132 = .ok (.ireturn, 1) := by decide +kernel
theorem dX3_chargeOverrun_0 : decode cX3_chargeOverrun 0 = .ok (.aload_n 1, 1) := by decide +kernel
theorem dX3_chargeOverrun_1 : decode cX3_chargeOverrun 1 = .ok (.dup, 1) := by decide +kernel
theorem dX3_chargeOverrun_2 : decode cX3_chargeOverrun 2 = .ok (.getfield 157, 3) := by decide +kernel
theorem dX3_chargeOverrun_5 : decode cX3_chargeOverrun 5 = .ok (.iconst 1, 1) := by decide +kernel
theorem dX3_chargeOverrun_6 : decode cX3_chargeOverrun 6 = .ok (.iadd, 1) := by decide +kernel
theorem dX3_chargeOverrun_7 : decode cX3_chargeOverrun 7 = .ok (.putfield 157, 3) := by decide +kernel
theorem dX3_chargeOverrun_10 : decode cX3_chargeOverrun 10 = .ok (.aload_n 1, 1) := by decide +kernel
theorem dX3_chargeOverrun_11 : decode cX3_chargeOverrun 11 = .ok (.iload_n 2, 1) := by decide +kernel
theorem dX3_chargeOverrun_12 : decode cX3_chargeOverrun 12 = .ok (.iconst 3, 1) := by decide +kernel
theorem dX3_chargeOverrun_13 : decode cX3_chargeOverrun 13 = .ok (.invokevirtual 85, 3) := by decide +kernel
theorem dX3_chargeOverrun_16 : decode cX3_chargeOverrun 16 = .ok (.aload_n 0, 1) := by decide +kernel
theorem dX3_chargeOverrun_17 : decode cX3_chargeOverrun 17 = .ok (.getfield 45, 3) := by decide +kernel
theorem dX3_chargeOverrun_20 : decode cX3_chargeOverrun 20 = .ok (.ifCond .le 26, 3) := by decide +kernel
theorem dX3_chargeOverrun_23 : decode cX3_chargeOverrun 23 = .ok (.aload_n 0, 1) := by decide +kernel
theorem dX3_chargeOverrun_24 : decode cX3_chargeOverrun 24 = .ok (.dup, 1) := by decide +kernel
theorem dX3_chargeOverrun_25 : decode cX3_chargeOverrun 25 = .ok (.getfield 45, 3) := by decide +kernel
theorem dX3_chargeOverrun_28 : decode cX3_chargeOverrun 28 = .ok (.iconst 1, 1) := by decide +kernel
theorem dX3_chargeOverrun_29 : decode cX3_chargeOverrun 29 = .ok (.isub, 1) := by decide +kernel
theorem dX3_chargeOverrun_30 : decode cX3_chargeOverrun 30 = .ok (.putfield 45, 3) := by decide +kernel
theorem dX3_chargeOverrun_33 : decode cX3_chargeOverrun 33 = .ok (.aload_n 0, 1) := by decide +kernel
theorem dX3_chargeOverrun_34 : decode cX3_chargeOverrun 34 = .ok (.dup, 1) := by decide +kernel
theorem dX3_chargeOverrun_35 : decode cX3_chargeOverrun 35 = .ok (.getfield 48, 3) := by decide +kernel
theorem dX3_chargeOverrun_38 : decode cX3_chargeOverrun 38 = .ok (.iconst 1, 1) := by decide +kernel
theorem dX3_chargeOverrun_39 : decode cX3_chargeOverrun 39 = .ok (.iadd, 1) := by decide +kernel
theorem dX3_chargeOverrun_40 : decode cX3_chargeOverrun 40 = .ok (.putfield 48, 3) := by decide +kernel
theorem dX3_chargeOverrun_43 : decode cX3_chargeOverrun 43 = .ok (.goto 18, 3) := by decide +kernel
theorem dX3_chargeOverrun_46 : decode cX3_chargeOverrun 46 = .ok (.aload_n 0, 1) := by decide +kernel
theorem dX3_chargeOverrun_47 : decode cX3_chargeOverrun 47 = .ok (.dup, 1) := by decide +kernel
theorem dX3_chargeOverrun_48 : decode cX3_chargeOverrun 48 = .ok (.getfield 42, 3) := by decide +kernel
theorem dX3_chargeOverrun_51 : decode cX3_chargeOverrun 51 = .ok (.aload_n 0, 1) := by decide +kernel
theorem dX3_chargeOverrun_52 : decode cX3_chargeOverrun 52 = .ok (.getfield 9, 3) := by decide +kernel
theorem dX3_chargeOverrun_55 : decode cX3_chargeOverrun 55 = .ok (.iconst 1, 1) := by decide +kernel
theorem dX3_chargeOverrun_56 : decode cX3_chargeOverrun 56 = .ok (.iaload, 1) := by decide +kernel
theorem dX3_chargeOverrun_57 : decode cX3_chargeOverrun 57 = .ok (.iadd, 1) := by decide +kernel
theorem dX3_chargeOverrun_58 : decode cX3_chargeOverrun 58 = .ok (.putfield 42, 3) := by decide +kernel
theorem dX3_chargeOverrun_61 : decode cX3_chargeOverrun 61 = .ok (.return_, 1) := by decide +kernel
theorem dX4_init_0 : decode cX4_init 0 = .ok (.aload_n 0, 1) := by decide +kernel
theorem dX4_init_1 : decode cX4_init 1 = .ok (.invokespecial 1, 3) := by decide +kernel
theorem dX4_init_4 : decode cX4_init 4 = .ok (.aload_n 0, 1) := by decide +kernel
theorem dX4_init_5 : decode cX4_init 5 = .ok (.new 7, 3) := by decide +kernel
theorem dX4_init_8 : decode cX4_init 8 = .ok (.dup, 1) := by decide +kernel
theorem dX4_init_9 : decode cX4_init 9 = .ok (.invokespecial 9, 3) := by decide +kernel
theorem dX4_init_12 : decode cX4_init 12 = .ok (.putfield 10, 3) := by decide +kernel
theorem dX4_init_15 : decode cX4_init 15 = .ok (.aload_n 0, 1) := by decide +kernel
theorem dX4_init_16 : decode cX4_init 16 = .ok (.new 16, 3) := by decide +kernel
theorem dX4_init_19 : decode cX4_init 19 = .ok (.dup, 1) := by decide +kernel
theorem dX4_init_20 : decode cX4_init 20 = .ok (.invokespecial 18, 3) := by decide +kernel
theorem dX4_init_23 : decode cX4_init 23 = .ok (.putfield 19, 3) := by decide +kernel
theorem dX4_init_26 : decode cX4_init 26 = .ok (.aload_n 0, 1) := by decide +kernel
theorem dX4_init_27 : decode cX4_init 27 = .ok (.iconst 2, 1) := by decide +kernel
theorem dX4_init_28 : decode cX4_init 28 = .ok (.anewarray 7, 3) := by decide +kernel
theorem dX4_init_31 : decode cX4_init 31 = .ok (.putfield 23, 3) := by decide +kernel
theorem dX4_init_34 : decode cX4_init 34 = .ok (.aload_n 0, 1) := by decide +kernel
theorem dX4_init_35 : decode cX4_init 35 = .ok (.iconst 2, 1) := by decide +kernel
theorem dX4_init_36 : decode cX4_init 36 = .ok (.newarray .boolean, 2) := by decide +kernel
theorem dX4_init_38 : decode cX4_init 38 = .ok (.putfield 27, 3) := by decide +kernel
theorem dX4_init_41 : decode cX4_init 41 = .ok (.aload_n 0, 1) := by decide +kernel
theorem dX4_init_42 : decode cX4_init 42 = .ok (.new 31, 3) := by decide +kernel
theorem dX4_init_45 : decode cX4_init 45 = .ok (.dup, 1) := by decide +kernel
theorem dX4_init_46 : decode cX4_init 46 = .ok (.invokespecial 33, 3) := by decide +kernel
theorem dX4_init_49 : decode cX4_init 49 = .ok (.putfield 34, 3) := by decide +kernel
theorem dX4_init_52 : decode cX4_init 52 = .ok (.aload_n 0, 1) := by decide +kernel
theorem dX4_init_53 : decode cX4_init 53 = .ok (.new 7, 3) := by decide +kernel
theorem dX4_init_56 : decode cX4_init 56 = .ok (.dup, 1) := by decide +kernel
theorem dX4_init_57 : decode cX4_init 57 = .ok (.invokespecial 9, 3) := by decide +kernel
theorem dX4_init_60 : decode cX4_init 60 = .ok (.putfield 38, 3) := by decide +kernel
theorem dX4_init_63 : decode cX4_init 63 = .ok (.aload_n 0, 1) := by decide +kernel
theorem dX4_init_64 : decode cX4_init 64 = .ok (.new 7, 3) := by decide +kernel
theorem dX4_init_67 : decode cX4_init 67 = .ok (.dup, 1) := by decide +kernel
theorem dX4_init_68 : decode cX4_init 68 = .ok (.invokespecial 9, 3) := by decide +kernel
theorem dX4_init_71 : decode cX4_init 71 = .ok (.putfield 41, 3) := by decide +kernel
theorem dX4_init_74 : decode cX4_init 74 = .ok (.iconst 0, 1) := by decide +kernel
theorem dX4_init_75 : decode cX4_init 75 = .ok (.istore_n 1, 1) := by decide +kernel
theorem dX4_init_76 : decode cX4_init 76 = .ok (.iload_n 1, 1) := by decide +kernel
theorem dX4_init_77 : decode cX4_init 77 = .ok (.iconst 2, 1) := by decide +kernel
theorem dX4_init_78 : decode cX4_init 78 = .ok (.if_icmp .ge 22, 3) := by decide +kernel
theorem dX4_init_81 : decode cX4_init 81 = .ok (.aload_n 0, 1) := by decide +kernel
theorem dX4_init_82 : decode cX4_init 82 = .ok (.getfield 23, 3) := by decide +kernel
theorem dX4_init_85 : decode cX4_init 85 = .ok (.iload_n 1, 1) := by decide +kernel
theorem dX4_init_86 : decode cX4_init 86 = .ok (.new 7, 3) := by decide +kernel
theorem dX4_init_89 : decode cX4_init 89 = .ok (.dup, 1) := by decide +kernel
theorem dX4_init_90 : decode cX4_init 90 = .ok (.invokespecial 9, 3) := by decide +kernel
theorem dX4_init_93 : decode cX4_init 93 = .ok (.aastore, 1) := by decide +kernel
theorem dX4_init_94 : decode cX4_init 94 = .ok (.iinc 1 1, 3) := by decide +kernel
theorem dX4_init_97 : decode cX4_init 97 = .ok (.goto (-21), 3) := by decide +kernel
theorem dX4_init_100 : decode cX4_init 100 = .ok (.return_, 1) := by decide +kernel
theorem dX4_set_0 : decode cX4_set 0 = .ok (.aload_n 0, 1) := by decide +kernel
theorem dX4_set_1 : decode cX4_set 1 = .ok (.getfield 19, 3) := by decide +kernel
theorem dX4_set_4 : decode cX4_set 4 = .ok (.aload_n 0, 1) := by decide +kernel
theorem dX4_set_5 : decode cX4_set 5 = .ok (.getfield 10, 3) := by decide +kernel
theorem dX4_set_8 : decode cX4_set 8 = .ok (.invokevirtual 44, 3) := by decide +kernel
theorem dX4_set_11 : decode cX4_set 11 = .ok (.aload_n 0, 1) := by decide +kernel
theorem dX4_set_12 : decode cX4_set 12 = .ok (.aload_n 0, 1) := by decide +kernel
theorem dX4_set_13 : decode cX4_set 13 = .ok (.getfield 10, 3) := by decide +kernel
theorem dX4_set_16 : decode cX4_set 16 = .ok (.iload_n 1, 1) := by decide +kernel
theorem dX4_set_17 : decode cX4_set 17 = .ok (.iload_n 2, 1) := by decide +kernel
theorem dX4_set_18 : decode cX4_set 18 = .ok (.invokevirtual 48, 3) := by decide +kernel
theorem dX4_set_21 : decode cX4_set 21 = .ok (.invokevirtual 52, 3) := by decide +kernel
theorem dX4_set_24 : decode cX4_set 24 = .ok (.ireturn, 1) := by decide +kernel
theorem dX4_stream_0 : decode cX4_stream 0 = .ok (.aload_n 0, 1) := by decide +kernel
theorem dX4_stream_1 : decode cX4_stream 1 = .ok (.getfield 19, 3) := by decide +kernel
theorem dX4_stream_4 : decode cX4_stream 4 = .ok (.aload_n 0, 1) := by decide +kernel
theorem dX4_stream_5 : decode cX4_stream 5 = .ok (.getfield 10, 3) := by decide +kernel
theorem dX4_stream_8 : decode cX4_stream 8 = .ok (.invokevirtual 44, 3) := by decide +kernel
theorem dX4_stream_11 : decode cX4_stream 11 = .ok (.aload_n 0, 1) := by decide +kernel
theorem dX4_stream_12 : decode cX4_stream 12 = .ok (.aload_n 0, 1) := by decide +kernel
theorem dX4_stream_13 : decode cX4_stream 13 = .ok (.getfield 10, 3) := by decide +kernel
theorem dX4_stream_16 : decode cX4_stream 16 = .ok (.iload_n 1, 1) := by decide +kernel
theorem dX4_stream_17 : decode cX4_stream 17 = .ok (.iload_n 2, 1) := by decide +kernel
theorem dX4_stream_18 : decode cX4_stream 18 = .ok (.iload_n 3, 1) := by decide +kernel
theorem dX4_stream_19 : decode cX4_stream 19 = .ok (.invokevirtual 56, 3) := by decide +kernel
theorem dX4_stream_22 : decode cX4_stream 22 = .ok (.invokevirtual 52, 3) := by decide +kernel
theorem dX4_stream_25 : decode cX4_stream 25 = .ok (.ireturn, 1) := by decide +kernel
theorem dX4_write_0 : decode cX4_write 0 = .ok (.aload_n 0, 1) := by decide +kernel
theorem dX4_write_1 : decode cX4_write 1 = .ok (.getfield 19, 3) := by decide +kernel
theorem dX4_write_4 : decode cX4_write 4 = .ok (.aload_n 0, 1) := by decide +kernel
theorem dX4_write_5 : decode cX4_write 5 = .ok (.getfield 10, 3) := by decide +kernel
theorem dX4_write_8 : decode cX4_write 8 = .ok (.invokevirtual 44, 3) := by decide +kernel
theorem dX4_write_11 : decode cX4_write 11 = .ok (.aload_n 0, 1) := by decide +kernel
theorem dX4_write_12 : decode cX4_write 12 = .ok (.aload_n 0, 1) := by decide +kernel
theorem dX4_write_13 : decode cX4_write 13 = .ok (.getfield 10, 3) := by decide +kernel
theorem dX4_write_16 : decode cX4_write 16 = .ok (.iload_n 1, 1) := by decide +kernel
theorem dX4_write_17 : decode cX4_write 17 = .ok (.iload_n 2, 1) := by decide +kernel
theorem dX4_write_18 : decode cX4_write 18 = .ok (.invokevirtual 60, 3) := by decide +kernel
theorem dX4_write_21 : decode cX4_write 21 = .ok (.invokevirtual 52, 3) := by decide +kernel
theorem dX4_write_24 : decode cX4_write 24 = .ok (.ireturn, 1) := by decide +kernel
theorem dX4_sell_0 : decode cX4_sell 0 = .ok (.aload_n 0, 1) := by decide +kernel
theorem dX4_sell_1 : decode cX4_sell 1 = .ok (.getfield 19, 3) := by decide +kernel
theorem dX4_sell_4 : decode cX4_sell 4 = .ok (.aload_n 0, 1) := by decide +kernel
theorem dX4_sell_5 : decode cX4_sell 5 = .ok (.getfield 10, 3) := by decide +kernel
theorem dX4_sell_8 : decode cX4_sell 8 = .ok (.invokevirtual 44, 3) := by decide +kernel
theorem dX4_sell_11 : decode cX4_sell 11 = .ok (.aload_n 0, 1) := by decide +kernel
theorem dX4_sell_12 : decode cX4_sell 12 = .ok (.aload_n 0, 1) := by decide +kernel
theorem dX4_sell_13 : decode cX4_sell 13 = .ok (.getfield 10, 3) := by decide +kernel
theorem dX4_sell_16 : decode cX4_sell 16 = .ok (.iload_n 1, 1) := by decide +kernel
theorem dX4_sell_17 : decode cX4_sell 17 = .ok (.iload_n 2, 1) := by decide +kernel
theorem dX4_sell_18 : decode cX4_sell 18 = .ok (.invokevirtual 63, 3) := by decide +kernel
theorem dX4_sell_21 : decode cX4_sell 21 = .ok (.invokevirtual 52, 3) := by decide +kernel
theorem dX4_sell_24 : decode cX4_sell 24 = .ok (.ireturn, 1) := by decide +kernel
theorem dX4_giveBack_0 : decode cX4_giveBack 0 = .ok (.aload_n 0, 1) := by decide +kernel
theorem dX4_giveBack_1 : decode cX4_giveBack 1 = .ok (.getfield 19, 3) := by decide +kernel
theorem dX4_giveBack_4 : decode cX4_giveBack 4 = .ok (.aload_n 0, 1) := by decide +kernel
theorem dX4_giveBack_5 : decode cX4_giveBack 5 = .ok (.getfield 10, 3) := by decide +kernel
theorem dX4_giveBack_8 : decode cX4_giveBack 8 = .ok (.invokevirtual 44, 3) := by decide +kernel
theorem dX4_giveBack_11 : decode cX4_giveBack 11 = .ok (.aload_n 0, 1) := by decide +kernel
theorem dX4_giveBack_12 : decode cX4_giveBack 12 = .ok (.aload_n 0, 1) := by decide +kernel
theorem dX4_giveBack_13 : decode cX4_giveBack 13 = .ok (.getfield 10, 3) := by decide +kernel
theorem dX4_giveBack_16 : decode cX4_giveBack 16 = .ok (.iload_n 1, 1) := by decide +kernel
theorem dX4_giveBack_17 : decode cX4_giveBack 17 = .ok (.iload_n 2, 1) := by decide +kernel
theorem dX4_giveBack_18 : decode cX4_giveBack 18 = .ok (.invokevirtual 66, 3) := by decide +kernel
theorem dX4_giveBack_21 : decode cX4_giveBack 21 = .ok (.invokevirtual 52, 3) := by decide +kernel
theorem dX4_giveBack_24 : decode cX4_giveBack 24 = .ok (.ireturn, 1) := by decide +kernel
theorem dX4_pass_0 : decode cX4_pass 0 = .ok (.aload_n 0, 1) := by decide +kernel
theorem dX4_pass_1 : decode cX4_pass 1 = .ok (.getfield 19, 3) := by decide +kernel
theorem dX4_pass_4 : decode cX4_pass 4 = .ok (.aload_n 0, 1) := by decide +kernel
theorem dX4_pass_5 : decode cX4_pass 5 = .ok (.getfield 10, 3) := by decide +kernel
theorem dX4_pass_8 : decode cX4_pass 8 = .ok (.invokevirtual 44, 3) := by decide +kernel
theorem dX4_pass_11 : decode cX4_pass 11 = .ok (.aload_n 0, 1) := by decide +kernel
theorem dX4_pass_12 : decode cX4_pass 12 = .ok (.aload_n 0, 1) := by decide +kernel
theorem dX4_pass_13 : decode cX4_pass 13 = .ok (.getfield 10, 3) := by decide +kernel
theorem dX4_pass_16 : decode cX4_pass 16 = .ok (.iload_n 1, 1) := by decide +kernel
theorem dX4_pass_17 : decode cX4_pass 17 = .ok (.invokevirtual 69, 3) := by decide +kernel
theorem dX4_pass_20 : decode cX4_pass 20 = .ok (.invokevirtual 52, 3) := by decide +kernel
theorem dX4_pass_23 : decode cX4_pass 23 = .ok (.ireturn, 1) := by decide +kernel
theorem dX4_ofDrive_0 : decode cX4_ofDrive 0 = .ok (.iload_n 1, 1) := by decide +kernel
theorem dX4_ofDrive_1 : decode cX4_ofDrive 1 = .ok (.invokestatic 72, 3) := by decide +kernel
theorem dX4_ofDrive_4 : decode cX4_ofDrive 4 = .ok (.ifCond .ne 5, 3) := by decide +kernel
theorem dX4_ofDrive_7 : decode cX4_ofDrive 7 = .ok (.iconst (-1), 1) := by decide +kernel
theorem dX4_ofDrive_8 : decode cX4_ofDrive 8 = .ok (.ireturn, 1) := by decide +kernel
theorem dX4_ofDrive_9 : decode cX4_ofDrive 9 = .ok (.aload_n 0, 1) := by decide +kernel
theorem dX4_ofDrive_10 : decode cX4_ofDrive 10 = .ok (.getfield 10, 3) := by decide +kernel
theorem dX4_ofDrive_13 : decode cX4_ofDrive 13 = .ok (.getfield 76, 3) := by decide +kernel
theorem dX4_ofDrive_16 : decode cX4_ofDrive 16 = .ok (.iload_n 1, 1) := by decide +kernel
theorem dX4_ofDrive_17 : decode cX4_ofDrive 17 = .ok (.aaload, 1) := by decide +kernel
theorem dX4_ofDrive_18 : decode cX4_ofDrive 18 = .ok (.astore_n 3, 1) := by decide +kernel
theorem dX4_ofDrive_19 : decode cX4_ofDrive 19 = .ok (.iload_n 2, 1) := by decide +kernel
theorem dX4_ofDrive_20 : decode cX4_ofDrive 20 = .ok (.tableswitch 167 0 13 #[72, 77, 82, 87, 92, 112, 125, 130, 135, 140, 145, 151, 157, 162], 72) := by decide +kernel
theorem dX4_ofDrive_92 : decode cX4_ofDrive 92 = .ok (.aload_n 3, 1) := by decide +kernel
theorem dX4_ofDrive_93 : decode cX4_ofDrive 93 = .ok (.getfield 80, 3) := by decide +kernel
theorem dX4_ofDrive_96 : decode cX4_ofDrive 96 = .ok (.ireturn, 1) := by decide +kernel
theorem dX4_ofDrive_97 : decode cX4_ofDrive 97 = .ok (.aload_n 3, 1) := by decide +kernel
theorem dX4_ofDrive_98 : decode cX4_ofDrive 98 = .ok (.getfield 86, 3) := by decide +kernel
theorem dX4_ofDrive_101 : decode cX4_ofDrive 101 = .ok (.ireturn, 1) := by decide +kernel
theorem dX4_ofDrive_102 : decode cX4_ofDrive 102 = .ok (.aload_n 3, 1) := by decide +kernel
theorem dX4_ofDrive_103 : decode cX4_ofDrive 103 = .ok (.getfield 89, 3) := by decide +kernel
theorem dX4_ofDrive_106 : decode cX4_ofDrive 106 = .ok (.ireturn, 1) := by decide +kernel
theorem dX4_ofDrive_107 : decode cX4_ofDrive 107 = .ok (.aload_n 3, 1) := by decide +kernel
theorem dX4_ofDrive_108 : decode cX4_ofDrive 108 = .ok (.getfield 92, 3) := by decide +kernel
theorem dX4_ofDrive_111 : decode cX4_ofDrive 111 = .ok (.ireturn, 1) := by decide +kernel
theorem dX4_ofDrive_112 : decode cX4_ofDrive 112 = .ok (.aload_n 3, 1) := by decide +kernel
theorem dX4_ofDrive_113 : decode cX4_ofDrive 113 = .ok (.aload_n 0, 1) := by decide +kernel
theorem dX4_ofDrive_114 : decode cX4_ofDrive 114 = .ok (.getfield 10, 3) := by decide +kernel
theorem dX4_ofDrive_117 : decode cX4_ofDrive 117 = .ok (.invokevirtual 95, 3) := by decide +kernel
theorem dX4_ofDrive_120 : decode cX4_ofDrive 120 = .ok (.invokevirtual 99, 3) := by decide +kernel
theorem dX4_ofDrive_123 : decode cX4_ofDrive 123 = .ok (.ifCond .eq 7, 3) := by decide +kernel
theorem dX4_ofDrive_126 : decode cX4_ofDrive 126 = .ok (.iconst 1, 1) := by decide +kernel
theorem dX4_ofDrive_127 : decode cX4_ofDrive 127 = .ok (.goto 4, 3) := by decide +kernel
theorem dX4_ofDrive_130 : decode cX4_ofDrive 130 = .ok (.iconst 0, 1) := by decide +kernel
theorem dX4_ofDrive_131 : decode cX4_ofDrive 131 = .ok (.ireturn, 1) := by decide +kernel
theorem dX4_ofDrive_132 : decode cX4_ofDrive 132 = .ok (.aload_n 3, 1) := by decide +kernel
theorem dX4_ofDrive_133 : decode cX4_ofDrive 133 = .ok (.getfield 102, 3) := by decide +kernel
theorem dX4_ofDrive_136 : decode cX4_ofDrive 136 = .ok (.ifCond .eq 7, 3) := by decide +kernel
theorem dX4_ofDrive_139 : decode cX4_ofDrive 139 = .ok (.iconst 1, 1) := by decide +kernel
theorem dX4_ofDrive_140 : decode cX4_ofDrive 140 = .ok (.goto 4, 3) := by decide +kernel
theorem dX4_ofDrive_143 : decode cX4_ofDrive 143 = .ok (.iconst 0, 1) := by decide +kernel
theorem dX4_ofDrive_144 : decode cX4_ofDrive 144 = .ok (.ireturn, 1) := by decide +kernel
theorem dX4_ofDrive_145 : decode cX4_ofDrive 145 = .ok (.aload_n 3, 1) := by decide +kernel
theorem dX4_ofDrive_146 : decode cX4_ofDrive 146 = .ok (.getfield 106, 3) := by decide +kernel
theorem dX4_ofDrive_149 : decode cX4_ofDrive 149 = .ok (.ireturn, 1) := by decide +kernel
theorem dX4_ofDrive_150 : decode cX4_ofDrive 150 = .ok (.aload_n 3, 1) := by decide +kernel
theorem dX4_ofDrive_151 : decode cX4_ofDrive 151 = .ok (.getfield 109, 3) := by decide +kernel
theorem dX4_ofDrive_154 : decode cX4_ofDrive 154 = .ok (.ireturn, 1) := by decide +kernel
theorem dX4_ofDrive_155 : decode cX4_ofDrive 155 = .ok (.aload_n 3, 1) := by decide +kernel
theorem dX4_ofDrive_156 : decode cX4_ofDrive 156 = .ok (.getfield 112, 3) := by decide +kernel
theorem dX4_ofDrive_159 : decode cX4_ofDrive 159 = .ok (.ireturn, 1) := by decide +kernel
theorem dX4_ofDrive_160 : decode cX4_ofDrive 160 = .ok (.aload_n 3, 1) := by decide +kernel
theorem dX4_ofDrive_161 : decode cX4_ofDrive 161 = .ok (.invokevirtual 115, 3) := by decide +kernel
theorem dX4_ofDrive_164 : decode cX4_ofDrive 164 = .ok (.ireturn, 1) := by decide +kernel
theorem dX4_ofDrive_165 : decode cX4_ofDrive 165 = .ok (.aload_n 3, 1) := by decide +kernel
theorem dX4_ofDrive_166 : decode cX4_ofDrive 166 = .ok (.iconst 2, 1) := by decide +kernel
theorem dX4_ofDrive_167 : decode cX4_ofDrive 167 = .ok (.invokevirtual 118, 3) := by decide +kernel
theorem dX4_ofDrive_170 : decode cX4_ofDrive 170 = .ok (.ireturn, 1) := by decide +kernel
theorem dX4_ofDrive_171 : decode cX4_ofDrive 171 = .ok (.aload_n 3, 1) := by decide +kernel
theorem dX4_ofDrive_172 : decode cX4_ofDrive 172 = .ok (.iconst 3, 1) := by decide +kernel
theorem dX4_ofDrive_173 : decode cX4_ofDrive 173 = .ok (.invokevirtual 118, 3) := by decide +kernel
theorem dX4_ofDrive_176 : decode cX4_ofDrive 176 = .ok (.ireturn, 1) := by decide +kernel
theorem dX4_ofDrive_177 : decode cX4_ofDrive 177 = .ok (.aload_n 3, 1) := by decide +kernel
theorem dX4_ofDrive_178 : decode cX4_ofDrive 178 = .ok (.getfield 121, 3) := by decide +kernel
theorem dX4_ofDrive_181 : decode cX4_ofDrive 181 = .ok (.ireturn, 1) := by decide +kernel
theorem dX4_ofDrive_182 : decode cX4_ofDrive 182 = .ok (.aload_n 3, 1) := by decide +kernel
theorem dX4_ofDrive_183 : decode cX4_ofDrive 183 = .ok (.getfield 124, 3) := by decide +kernel
theorem dX4_ofDrive_186 : decode cX4_ofDrive 186 = .ok (.ireturn, 1) := by decide +kernel
theorem dX4_ofDrive_187 : decode cX4_ofDrive 187 = .ok (.bipush (-2), 2) := by decide +kernel
theorem dX4_ofDrive_189 : decode cX4_ofDrive 189 = .ok (.ireturn, 1) := by decide +kernel
theorem dX4_hour_0 : decode cX4_hour 0 = .ok (.iload_n 1, 1) := by decide +kernel
theorem dX4_hour_1 : decode cX4_hour 1 = .ok (.invokestatic 72, 3) := by decide +kernel
theorem dX4_hour_4 : decode cX4_hour 4 = .ok (.ifCond .ne 5, 3) := by decide +kernel
theorem dX4_hour_7 : decode cX4_hour 7 = .ok (.iconst (-1), 1) := by decide +kernel
theorem dX4_hour_8 : decode cX4_hour 8 = .ok (.ireturn, 1) := by decide +kernel
theorem dX4_hour_9 : decode cX4_hour 9 = .ok (.iload_n 2, 1) := by decide +kernel
theorem dX4_hour_10 : decode cX4_hour 10 = .ok (.invokestatic 127, 3) := by decide +kernel
theorem dX4_hour_13 : decode cX4_hour 13 = .ok (.ifCond .eq 19, 3) := by decide +kernel
theorem dX4_hour_16 : decode cX4_hour 16 = .ok (.aload_n 0, 1) := by decide +kernel
theorem dX4_hour_17 : decode cX4_hour 17 = .ok (.getfield 10, 3) := by decide +kernel
theorem dX4_hour_20 : decode cX4_hour 20 = .ok (.getfield 76, 3) := by decide +kernel
theorem dX4_hour_23 : decode cX4_hour 23 = .ok (.iload_n 1, 1) := by decide +kernel
theorem dX4_hour_24 : decode cX4_hour 24 = .ok (.aaload, 1) := by decide +kernel
theorem dX4_hour_25 : decode cX4_hour 25 = .ok (.iload_n 2, 1) := by decide +kernel
theorem dX4_hour_26 : decode cX4_hour 26 = .ok (.invokevirtual 130, 3) := by decide +kernel
theorem dX4_hour_29 : decode cX4_hour 29 = .ok (.goto 5, 3) := by decide +kernel
theorem dX4_hour_32 : decode cX4_hour 32 = .ok (.bipush (-2), 2) := by decide +kernel
theorem dX4_hour_34 : decode cX4_hour 34 = .ok (.ireturn, 1) := by decide +kernel
theorem dX4_streak_0 : decode cX4_streak 0 = .ok (.iload_n 1, 1) := by decide +kernel
theorem dX4_streak_1 : decode cX4_streak 1 = .ok (.invokestatic 72, 3) := by decide +kernel
theorem dX4_streak_4 : decode cX4_streak 4 = .ok (.ifCond .eq 18, 3) := by decide +kernel
theorem dX4_streak_7 : decode cX4_streak 7 = .ok (.aload_n 0, 1) := by decide +kernel
theorem dX4_streak_8 : decode cX4_streak 8 = .ok (.getfield 10, 3) := by decide +kernel
theorem dX4_streak_11 : decode cX4_streak 11 = .ok (.getfield 76, 3) := by decide +kernel
theorem dX4_streak_14 : decode cX4_streak 14 = .ok (.iload_n 1, 1) := by decide +kernel
theorem dX4_streak_15 : decode cX4_streak 15 = .ok (.aaload, 1) := by decide +kernel
theorem dX4_streak_16 : decode cX4_streak 16 = .ok (.invokevirtual 133, 3) := by decide +kernel
theorem dX4_streak_19 : decode cX4_streak 19 = .ok (.goto 4, 3) := by decide +kernel
theorem dX4_streak_22 : decode cX4_streak 22 = .ok (.iconst (-1), 1) := by decide +kernel
theorem dX4_streak_23 : decode cX4_streak 23 = .ok (.ireturn, 1) := by decide +kernel
theorem dX4_share_0 : decode cX4_share 0 = .ok (.iload_n 1, 1) := by decide +kernel
theorem dX4_share_1 : decode cX4_share 1 = .ok (.invokestatic 72, 3) := by decide +kernel
theorem dX4_share_4 : decode cX4_share 4 = .ok (.ifCond .ne 5, 3) := by decide +kernel
theorem dX4_share_7 : decode cX4_share 7 = .ok (.iconst (-1), 1) := by decide +kernel
theorem dX4_share_8 : decode cX4_share 8 = .ok (.ireturn, 1) := by decide +kernel
theorem dX4_share_9 : decode cX4_share 9 = .ok (.aload_n 0, 1) := by decide +kernel
theorem dX4_share_10 : decode cX4_share 10 = .ok (.getfield 10, 3) := by decide +kernel
theorem dX4_share_13 : decode cX4_share 13 = .ok (.getfield 76, 3) := by decide +kernel
theorem dX4_share_16 : decode cX4_share 16 = .ok (.iload_n 1, 1) := by decide +kernel
theorem dX4_share_17 : decode cX4_share 17 = .ok (.aaload, 1) := by decide +kernel
theorem dX4_share_18 : decode cX4_share 18 = .ok (.iconst 2, 1) := by decide +kernel
theorem dX4_share_19 : decode cX4_share 19 = .ok (.invokevirtual 118, 3) := by decide +kernel
theorem dX4_share_22 : decode cX4_share 22 = .ok (.istore_n 2, 1) := by decide +kernel
theorem dX4_share_23 : decode cX4_share 23 = .ok (.iload_n 2, 1) := by decide +kernel
theorem dX4_share_24 : decode cX4_share 24 = .ok (.aload_n 0, 1) := by decide +kernel
theorem dX4_share_25 : decode cX4_share 25 = .ok (.getfield 10, 3) := by decide +kernel
theorem dX4_share_28 : decode cX4_share 28 = .ok (.getfield 76, 3) := by decide +kernel
theorem dX4_share_31 : decode cX4_share 31 = .ok (.iload_n 1, 1) := by decide +kernel
theorem dX4_share_32 : decode cX4_share 32 = .ok (.aaload, 1) := by decide +kernel
theorem dX4_share_33 : decode cX4_share 33 = .ok (.iconst 3, 1) := by decide +kernel
theorem dX4_share_34 : decode cX4_share 34 = .ok (.invokevirtual 118, 3) := by decide +kernel
theorem dX4_share_37 : decode cX4_share 37 = .ok (.iadd, 1) := by decide +kernel
theorem dX4_share_38 : decode cX4_share 38 = .ok (.istore_n 3, 1) := by decide +kernel
theorem dX4_share_39 : decode cX4_share 39 = .ok (.iload_n 3, 1) := by decide +kernel
theorem dX4_share_40 : decode cX4_share 40 = .ok (.ifCond .le 15, 3) := by decide +kernel
theorem dX4_share_43 : decode cX4_share 43 = .ok (.iload_n 2, 1) := by decide +kernel
theorem dX4_share_44 : decode cX4_share 44 = .ok (.i2d, 1) := by decide +kernel
theorem dX4_share_45 : decode cX4_share 45 = .ok (.iload_n 3, 1) := by decide +kernel
theorem dX4_share_46 : decode cX4_share 46 = .ok (.i2d, 1) := by decide +kernel
theorem dX4_share_47 : decode cX4_share 47 = .ok (.ddiv, 1) := by decide +kernel
theorem dX4_share_48 : decode cX4_share 48 = .ok (.d2f, 1) := by decide +kernel
theorem dX4_share_49 : decode cX4_share 49 = .ok (.invokestatic 136, 3) := by decide +kernel
theorem dX4_share_52 : decode cX4_share 52 = .ok (.goto 5, 3) := by decide +kernel
theorem dX4_share_55 : decode cX4_share 55 = .ok (.bipush (-6), 2) := by decide +kernel
theorem dX4_share_57 : decode cX4_share 57 = .ok (.ireturn, 1) := by decide +kernel
theorem dX4_count_0 : decode cX4_count 0 = .ok (.iload_n 1, 1) := by decide +kernel
theorem dX4_count_1 : decode cX4_count 1 = .ok (.bipush 6, 2) := by decide +kernel
theorem dX4_count_3 : decode cX4_count 3 = .ok (.if_icmp .lt 22, 3) := by decide +kernel
theorem dX4_count_6 : decode cX4_count 6 = .ok (.iload_n 1, 1) := by decide +kernel
theorem dX4_count_7 : decode cX4_count 7 = .ok (.bipush 13, 2) := by decide +kernel
theorem dX4_count_9 : decode cX4_count 9 = .ok (.if_icmp .ge 16, 3) := by decide +kernel
theorem dX4_count_12 : decode cX4_count 12 = .ok (.aload_n 0, 1) := by decide +kernel
theorem dX4_count_13 : decode cX4_count 13 = .ok (.getfield 10, 3) := by decide +kernel
theorem dX4_count_16 : decode cX4_count 16 = .ok (.getfield 153, 3) := by decide +kernel
theorem dX4_count_19 : decode cX4_count 19 = .ok (.iload_n 1, 1) := by decide +kernel
theorem dX4_count_20 : decode cX4_count 20 = .ok (.bipush 6, 2) := by decide +kernel
theorem dX4_count_22 : decode cX4_count 22 = .ok (.isub, 1) := by decide +kernel
theorem dX4_count_23 : decode cX4_count 23 = .ok (.iaload, 1) := by decide +kernel
theorem dX4_count_24 : decode cX4_count 24 = .ok (.ireturn, 1) := by decide +kernel
theorem dX4_count_25 : decode cX4_count 25 = .ok (.iload_n 1, 1) := by decide +kernel
theorem dX4_count_26 : decode cX4_count 26 = .ok (.tableswitch 138 0 14 #[74, 82, 90, 98, 106, 114, 138, 138, 138, 138, 138, 138, 138, 122, 130], 74) := by decide +kernel
theorem dX4_count_100 : decode cX4_count 100 = .ok (.aload_n 0, 1) := by decide +kernel
theorem dX4_count_101 : decode cX4_count 101 = .ok (.getfield 10, 3) := by decide +kernel
theorem dX4_count_104 : decode cX4_count 104 = .ok (.getfield 142, 3) := by decide +kernel
theorem dX4_count_107 : decode cX4_count 107 = .ok (.ireturn, 1) := by decide +kernel
theorem dX4_count_108 : decode cX4_count 108 = .ok (.aload_n 0, 1) := by decide +kernel
theorem dX4_count_109 : decode cX4_count 109 = .ok (.getfield 10, 3) := by decide +kernel
theorem dX4_count_112 : decode cX4_count 112 = .ok (.invokevirtual 95, 3) := by decide +kernel
theorem dX4_count_115 : decode cX4_count 115 = .ok (.ireturn, 1) := by decide +kernel
theorem dX4_count_116 : decode cX4_count 116 = .ok (.aload_n 0, 1) := by decide +kernel
theorem dX4_count_117 : decode cX4_count 117 = .ok (.getfield 10, 3) := by decide +kernel
theorem dX4_count_120 : decode cX4_count 120 = .ok (.getfield 157, 3) := by decide +kernel
theorem dX4_count_123 : decode cX4_count 123 = .ok (.ireturn, 1) := by decide +kernel
theorem dX4_count_124 : decode cX4_count 124 = .ok (.aload_n 0, 1) := by decide +kernel
theorem dX4_count_125 : decode cX4_count 125 = .ok (.getfield 10, 3) := by decide +kernel
theorem dX4_count_128 : decode cX4_count 128 = .ok (.getfield 160, 3) := by decide +kernel
theorem dX4_count_131 : decode cX4_count 131 = .ok (.ireturn, 1) := by decide +kernel
theorem dX4_count_132 : decode cX4_count 132 = .ok (.aload_n 0, 1) := by decide +kernel
theorem dX4_count_133 : decode cX4_count 133 = .ok (.getfield 10, 3) := by decide +kernel
theorem dX4_count_136 : decode cX4_count 136 = .ok (.getfield 163, 3) := by decide +kernel
theorem dX4_count_139 : decode cX4_count 139 = .ok (.ireturn, 1) := by decide +kernel
theorem dX4_count_140 : decode cX4_count 140 = .ok (.aload_n 0, 1) := by decide +kernel
theorem dX4_count_141 : decode cX4_count 141 = .ok (.getfield 10, 3) := by decide +kernel
theorem dX4_count_144 : decode cX4_count 144 = .ok (.getfield 166, 3) := by decide +kernel
theorem dX4_count_147 : decode cX4_count 147 = .ok (.ireturn, 1) := by decide +kernel
theorem dX4_count_148 : decode cX4_count 148 = .ok (.aload_n 0, 1) := by decide +kernel
theorem dX4_count_149 : decode cX4_count 149 = .ok (.getfield 34, 3) := by decide +kernel
theorem dX4_count_152 : decode cX4_count 152 = .ok (.getfield 169, 3) := by decide +kernel
theorem dX4_count_155 : decode cX4_count 155 = .ok (.ireturn, 1) := by decide +kernel
theorem dX4_count_156 : decode cX4_count 156 = .ok (.aload_n 0, 1) := by decide +kernel
theorem dX4_count_157 : decode cX4_count 157 = .ok (.getfield 19, 3) := by decide +kernel
theorem dX4_count_160 : decode cX4_count 160 = .ok (.getfield 172, 3) := by decide +kernel
theorem dX4_count_163 : decode cX4_count 163 = .ok (.ireturn, 1) := by decide +kernel
theorem dX4_count_164 : decode cX4_count 164 = .ok (.bipush (-2), 2) := by decide +kernel
theorem dX4_count_166 : decode cX4_count 166 = .ok (.ireturn, 1) := by decide +kernel
theorem dX4_recorded_0 : decode cX4_recorded 0 = .ok (.iload_n 1, 1) := by decide +kernel
theorem dX4_recorded_1 : decode cX4_recorded 1 = .ok (.ifCond .lt 10, 3) := by decide +kernel
theorem dX4_recorded_4 : decode cX4_recorded 4 = .ok (.aload_n 0, 1) := by decide +kernel
theorem dX4_recorded_5 : decode cX4_recorded 5 = .ok (.getfield 19, 3) := by decide +kernel
theorem dX4_recorded_8 : decode cX4_recorded 8 = .ok (.invokevirtual 221, 3) := by decide +kernel
theorem dX4_recorded_11 : decode cX4_recorded 11 = .ok (.iload_n 1, 1) := by decide +kernel
theorem dX4_recorded_12 : decode cX4_recorded 12 = .ok (.ireturn, 1) := by decide +kernel
theorem dX4_isDrive_0 : decode cX4_isDrive 0 = .ok (.iload_n 0, 1) := by decide +kernel
theorem dX4_isDrive_1 : decode cX4_isDrive 1 = .ok (.ifCond .lt 12, 3) := by decide +kernel
theorem dX4_isDrive_4 : decode cX4_isDrive 4 = .ok (.iload_n 0, 1) := by decide +kernel
theorem dX4_isDrive_5 : decode cX4_isDrive 5 = .ok (.iconst 4, 1) := by decide +kernel
theorem dX4_isDrive_6 : decode cX4_isDrive 6 = .ok (.if_icmp .ge 7, 3) := by decide +kernel
theorem dX4_isDrive_9 : decode cX4_isDrive 9 = .ok (.iconst 1, 1) := by decide +kernel
theorem dX4_isDrive_10 : decode cX4_isDrive 10 = .ok (.goto 4, 3) := by decide +kernel
theorem dX4_isDrive_13 : decode cX4_isDrive 13 = .ok (.iconst 0, 1) := by decide +kernel
theorem dX4_isDrive_14 : decode cX4_isDrive 14 = .ok (.ireturn, 1) := by decide +kernel
theorem dX4_twinOf_0 : decode cX4_twinOf 0 = .ok (.iload_n 0, 1) := by decide +kernel
theorem dX4_twinOf_1 : decode cX4_twinOf 1 = .ok (.iconst 2, 1) := by decide +kernel
theorem dX4_twinOf_2 : decode cX4_twinOf 2 = .ok (.irem, 1) := by decide +kernel
theorem dX4_twinOf_3 : decode cX4_twinOf 3 = .ok (.ifCond .ne 9, 3) := by decide +kernel
theorem dX4_twinOf_6 : decode cX4_twinOf 6 = .ok (.iload_n 0, 1) := by decide +kernel
theorem dX4_twinOf_7 : decode cX4_twinOf 7 = .ok (.iconst 1, 1) := by decide +kernel
theorem dX4_twinOf_8 : decode cX4_twinOf 8 = .ok (.iadd, 1) := by decide +kernel
theorem dX4_twinOf_9 : decode cX4_twinOf 9 = .ok (.goto 6, 3) := by decide +kernel
theorem dX4_twinOf_12 : decode cX4_twinOf 12 = .ok (.iload_n 0, 1) := by decide +kernel
theorem dX4_twinOf_13 : decode cX4_twinOf 13 = .ok (.iconst 1, 1) := by decide +kernel
theorem dX4_twinOf_14 : decode cX4_twinOf 14 = .ok (.isub, 1) := by decide +kernel
theorem dX4_twinOf_15 : decode cX4_twinOf 15 = .ok (.ireturn, 1) := by decide +kernel
theorem dX4_isHour_0 : decode cX4_isHour 0 = .ok (.iload_n 0, 1) := by decide +kernel
theorem dX4_isHour_1 : decode cX4_isHour 1 = .ok (.ifCond .lt 13, 3) := by decide +kernel
theorem dX4_isHour_4 : decode cX4_isHour 4 = .ok (.iload_n 0, 1) := by decide +kernel
theorem dX4_isHour_5 : decode cX4_isHour 5 = .ok (.bipush 100, 2) := by decide +kernel
theorem dX4_isHour_7 : decode cX4_isHour 7 = .ok (.if_icmp .ge 7, 3) := by decide +kernel
theorem dX4_isHour_10 : decode cX4_isHour 10 = .ok (.iconst 1, 1) := by decide +kernel
theorem dX4_isHour_11 : decode cX4_isHour 11 = .ok (.goto 4, 3) := by decide +kernel
theorem dX4_isHour_14 : decode cX4_isHour 14 = .ok (.iconst 0, 1) := by decide +kernel
theorem dX4_isHour_15 : decode cX4_isHour 15 = .ok (.ireturn, 1) := by decide +kernel
theorem dX4_arePassable_0 : decode cX4_arePassable 0 = .ok (.iload_n 0, 1) := by decide +kernel
theorem dX4_arePassable_1 : decode cX4_arePassable 1 = .ok (.iconst 1, 1) := by decide +kernel
theorem dX4_arePassable_2 : decode cX4_arePassable 2 = .ok (.if_icmp .lt 14, 3) := by decide +kernel
theorem dX4_arePassable_5 : decode cX4_arePassable 5 = .ok (.iload_n 0, 1) := by decide +kernel
theorem dX4_arePassable_6 : decode cX4_arePassable 6 = .ok (.sipush 600, 3) := by decide +kernel
theorem dX4_arePassable_9 : decode cX4_arePassable 9 = .ok (.if_icmp .gt 7, 3) := by decide +kernel
theorem dX4_arePassable_12 : decode cX4_arePassable 12 = .ok (.iconst 1, 1) := by decide +kernel
theorem dX4_arePassable_13 : decode cX4_arePassable 13 = .ok (.goto 4, 3) := by decide +kernel
theorem dX4_arePassable_16 : decode cX4_arePassable 16 = .ok (.iconst 0, 1) := by decide +kernel
theorem dX4_arePassable_17 : decode cX4_arePassable 17 = .ok (.ireturn, 1) := by decide +kernel
theorem dX4_doubleBits_0 : decode cX4_doubleBits 0 = .ok (.dload_n 0, 1) := by decide +kernel
theorem dX4_doubleBits_1 : decode cX4_doubleBits 1 = .ok (.dconst 0, 1) := by decide +kernel
theorem dX4_doubleBits_2 : decode cX4_doubleBits 2 = .ok (.dcmp .l, 1) := by decide +kernel
theorem dX4_doubleBits_3 : decode cX4_doubleBits 3 = .ok (.ifCond .gt 5, 3) := by decide +kernel
theorem dX4_doubleBits_6 : decode cX4_doubleBits 6 = .ok (.lconst 0, 1) := by decide +kernel
theorem dX4_doubleBits_7 : decode cX4_doubleBits 7 = .ok (.lreturn, 1) := by decide +kernel
theorem dX4_doubleBits_8 : decode cX4_doubleBits 8 = .ok (.dload_n 0, 1) := by decide +kernel
theorem dX4_doubleBits_9 : decode cX4_doubleBits 9 = .ok (.dstore_n 2, 1) := by decide +kernel
theorem dX4_doubleBits_10 : decode cX4_doubleBits 10 = .ok (.iconst 0, 1) := by decide +kernel
theorem dX4_doubleBits_11 : decode cX4_doubleBits 11 = .ok (.istore 4, 2) := by decide +kernel
theorem dX4_doubleBits_13 : decode cX4_doubleBits 13 = .ok (.dload_n 2, 1) := by decide +kernel
theorem dX4_doubleBits_14 : decode cX4_doubleBits 14 = .ok (.ldc2_w 261, 3) := by decide +kernel
theorem dX4_doubleBits_17 : decode cX4_doubleBits 17 = .ok (.dcmp .l, 1) := by decide +kernel
theorem dX4_doubleBits_18 : decode cX4_doubleBits 18 = .ok (.ifCond .lt 23, 3) := by decide +kernel
theorem dX4_doubleBits_21 : decode cX4_doubleBits 21 = .ok (.iload 4, 2) := by decide +kernel
theorem dX4_doubleBits_23 : decode cX4_doubleBits 23 = .ok (.sipush 1023, 3) := by decide +kernel
theorem dX4_doubleBits_26 : decode cX4_doubleBits 26 = .ok (.if_icmp .ge 15, 3) := by decide +kernel
theorem dX4_doubleBits_29 : decode cX4_doubleBits 29 = .ok (.dload_n 2, 1) := by decide +kernel
theorem dX4_doubleBits_30 : decode cX4_doubleBits 30 = .ok (.ldc2_w 261, 3) := by decide +kernel
theorem dX4_doubleBits_33 : decode cX4_doubleBits 33 = .ok (.ddiv, 1) := by decide +kernel
theorem dX4_doubleBits_34 : decode cX4_doubleBits 34 = .ok (.dstore_n 2, 1) := by decide +kernel
theorem dX4_doubleBits_35 : decode cX4_doubleBits 35 = .ok (.iinc 4 1, 3) := by decide +kernel
theorem dX4_doubleBits_38 : decode cX4_doubleBits 38 = .ok (.goto (-25), 3) := by decide +kernel
theorem dX4_doubleBits_41 : decode cX4_doubleBits 41 = .ok (.dload_n 2, 1) := by decide +kernel
theorem dX4_doubleBits_42 : decode cX4_doubleBits 42 = .ok (.dconst 1, 1) := by decide +kernel
theorem dX4_doubleBits_43 : decode cX4_doubleBits 43 = .ok (.dcmp .g, 1) := by decide +kernel
theorem dX4_doubleBits_44 : decode cX4_doubleBits 44 = .ok (.ifCond .ge 23, 3) := by decide +kernel
theorem dX4_doubleBits_47 : decode cX4_doubleBits 47 = .ok (.iload 4, 2) := by decide +kernel
theorem dX4_doubleBits_49 : decode cX4_doubleBits 49 = .ok (.sipush (-1022), 3) := by decide +kernel
theorem dX4_doubleBits_52 : decode cX4_doubleBits 52 = .ok (.if_icmp .le 15, 3) := by decide +kernel
theorem dX4_doubleBits_55 : decode cX4_doubleBits 55 = .ok (.dload_n 2, 1) := by decide +kernel
theorem dX4_doubleBits_56 : decode cX4_doubleBits 56 = .ok (.ldc2_w 261, 3) := by decide +kernel
theorem dX4_doubleBits_59 : decode cX4_doubleBits 59 = .ok (.dmul, 1) := by decide +kernel
theorem dX4_doubleBits_60 : decode cX4_doubleBits 60 = .ok (.dstore_n 2, 1) := by decide +kernel
theorem dX4_doubleBits_61 : decode cX4_doubleBits 61 = .ok (.iinc 4 (-1), 3) := by decide +kernel
theorem dX4_doubleBits_64 : decode cX4_doubleBits 64 = .ok (.goto (-23), 3) := by decide +kernel
theorem dX4_doubleBits_67 : decode cX4_doubleBits 67 = .ok (.dload_n 2, 1) := by decide +kernel
theorem dX4_doubleBits_68 : decode cX4_doubleBits 68 = .ok (.dconst 1, 1) := by decide +kernel
theorem dX4_doubleBits_69 : decode cX4_doubleBits 69 = .ok (.dsub, 1) := by decide +kernel
theorem dX4_doubleBits_70 : decode cX4_doubleBits 70 = .ok (.ldc2_w 263, 3) := by decide +kernel
theorem dX4_doubleBits_73 : decode cX4_doubleBits 73 = .ok (.dmul, 1) := by decide +kernel
theorem dX4_doubleBits_74 : decode cX4_doubleBits 74 = .ok (.d2l, 1) := by decide +kernel
theorem dX4_doubleBits_75 : decode cX4_doubleBits 75 = .ok (.lstore 5, 2) := by decide +kernel
theorem dX4_doubleBits_77 : decode cX4_doubleBits 77 = .ok (.iload 4, 2) := by decide +kernel
theorem dX4_doubleBits_79 : decode cX4_doubleBits 79 = .ok (.sipush 1023, 3) := by decide +kernel
theorem dX4_doubleBits_82 : decode cX4_doubleBits 82 = .ok (.iadd, 1) := by decide +kernel
theorem dX4_doubleBits_83 : decode cX4_doubleBits 83 = .ok (.i2l, 1) := by decide +kernel
theorem dX4_doubleBits_84 : decode cX4_doubleBits 84 = .ok (.bipush 52, 2) := by decide +kernel
theorem dX4_doubleBits_86 : decode cX4_doubleBits 86 = .ok (.lshl, 1) := by decide +kernel
theorem dX4_doubleBits_87 : decode cX4_doubleBits 87 = .ok (.lload 5, 2) := by decide +kernel
theorem dX4_doubleBits_89 : decode cX4_doubleBits 89 = .ok (.ladd, 1) := by decide +kernel
theorem dX4_doubleBits_90 : decode cX4_doubleBits 90 = .ok (.lreturn, 1) := by decide +kernel
theorem dX4_floatBits_0 : decode cX4_floatBits 0 = .ok (.fload_n 0, 1) := by decide +kernel
theorem dX4_floatBits_1 : decode cX4_floatBits 1 = .ok (.f2d, 1) := by decide +kernel
theorem dX4_floatBits_2 : decode cX4_floatBits 2 = .ok (.invokestatic 149, 3) := by decide +kernel
theorem dX4_floatBits_5 : decode cX4_floatBits 5 = .ok (.lstore_n 1, 1) := by decide +kernel
theorem dX4_floatBits_6 : decode cX4_floatBits 6 = .ok (.lload_n 1, 1) := by decide +kernel
theorem dX4_floatBits_7 : decode cX4_floatBits 7 = .ok (.lconst 0, 1) := by decide +kernel
theorem dX4_floatBits_8 : decode cX4_floatBits 8 = .ok (.lcmp, 1) := by decide +kernel
theorem dX4_floatBits_9 : decode cX4_floatBits 9 = .ok (.ifCond .ne 5, 3) := by decide +kernel
theorem dX4_floatBits_12 : decode cX4_floatBits 12 = .ok (.iconst 0, 1) := by decide +kernel
theorem dX4_floatBits_13 : decode cX4_floatBits 13 = .ok (.ireturn, 1) := by decide +kernel
theorem dX4_floatBits_14 : decode cX4_floatBits 14 = .ok (.lload_n 1, 1) := by decide +kernel
theorem dX4_floatBits_15 : decode cX4_floatBits 15 = .ok (.bipush 29, 2) := by decide +kernel
theorem dX4_floatBits_17 : decode cX4_floatBits 17 = .ok (.lushr, 1) := by decide +kernel
theorem dX4_floatBits_18 : decode cX4_floatBits 18 = .ok (.lstore_n 3, 1) := by decide +kernel
theorem dX4_floatBits_19 : decode cX4_floatBits 19 = .ok (.lload_n 3, 1) := by decide +kernel
theorem dX4_floatBits_20 : decode cX4_floatBits 20 = .ok (.ldc2_w 265, 3) := by decide +kernel
theorem dX4_floatBits_23 : decode cX4_floatBits 23 = .ok (.lsub, 1) := by decide +kernel
theorem dX4_floatBits_24 : decode cX4_floatBits 24 = .ok (.l2i, 1) := by decide +kernel
theorem dX4_floatBits_25 : decode cX4_floatBits 25 = .ok (.ireturn, 1) := by decide +kernel
theorem dJ9_min_7cf53_0 : decode cJ9_min_7cf53 0 = .ok (.iload_n 0, 1) := by decide +kernel
theorem dJ9_min_7cf53_1 : decode cJ9_min_7cf53 1 = .ok (.iload_n 1, 1) := by decide +kernel
theorem dJ9_min_7cf53_2 : decode cJ9_min_7cf53 2 = .ok (.if_icmp .gt 7, 3) := by decide +kernel
theorem dJ9_min_7cf53_5 : decode cJ9_min_7cf53 5 = .ok (.iload_n 0, 1) := by decide +kernel
theorem dJ9_min_7cf53_6 : decode cJ9_min_7cf53 6 = .ok (.goto 4, 3) := by decide +kernel
theorem dJ9_min_7cf53_9 : decode cJ9_min_7cf53 9 = .ok (.iload_n 1, 1) := by decide +kernel
theorem dJ9_min_7cf53_10 : decode cJ9_min_7cf53 10 = .ok (.ireturn, 1) := by decide +kernel
theorem dL_low_0 : decode cL_low 0 = .ok (.iload_n 0, 1) := by decide +kernel
theorem dL_low_1 : decode cL_low 1 = .ok (.ldc 7, 2) := by decide +kernel
theorem dL_low_3 : decode cL_low 3 = .ok (.iand, 1) := by decide +kernel
theorem dL_low_4 : decode cL_low 4 = .ok (.iload_n 1, 1) := by decide +kernel
theorem dL_low_5 : decode cL_low 5 = .ok (.irem, 1) := by decide +kernel
theorem dL_low_6 : decode cL_low 6 = .ok (.ireturn, 1) := by decide +kernel
theorem dL_cell_0 : decode cL_cell 0 = .ok (.iload_n 1, 1) := by decide +kernel
theorem dL_cell_1 : decode cL_cell 1 = .ok (.aload_n 0, 1) := by decide +kernel
theorem dL_cell_2 : decode cL_cell 2 = .ok (.arraylength, 1) := by decide +kernel
theorem dL_cell_3 : decode cL_cell 3 = .ok (.if_icmp .ge 9, 3) := by decide +kernel
theorem dL_cell_6 : decode cL_cell 6 = .ok (.aload_n 0, 1) := by decide +kernel
theorem dL_cell_7 : decode cL_cell 7 = .ok (.iload_n 1, 1) := by decide +kernel
theorem dL_cell_8 : decode cL_cell 8 = .ok (.iaload, 1) := by decide +kernel
theorem dL_cell_9 : decode cL_cell 9 = .ok (.goto 11, 3) := by decide +kernel
theorem dL_cell_12 : decode cL_cell 12 = .ok (.ldc 8, 2) := by decide +kernel
theorem dL_cell_14 : decode cL_cell 14 = .ok (.iload_n 1, 1) := by decide +kernel
theorem dL_cell_15 : decode cL_cell 15 = .ok (.imul, 1) := by decide +kernel
theorem dL_cell_16 : decode cL_cell 16 = .ok (.sipush 977, 3) := by decide +kernel
theorem dL_cell_19 : decode cL_cell 19 = .ok (.iadd, 1) := by decide +kernel
theorem dL_cell_20 : decode cL_cell 20 = .ok (.ireturn, 1) := by decide +kernel
theorem dL_drive_0 : decode cL_drive 0 = .ok (.aload_n 0, 1) := by decide +kernel
theorem dL_drive_1 : decode cL_drive 1 = .ok (.iload_n 1, 1) := by decide +kernel
theorem dL_drive_2 : decode cL_drive 2 = .ok (.iconst 0, 1) := by decide +kernel
theorem dL_drive_3 : decode cL_drive 3 = .ok (.invokevirtual 9, 3) := by decide +kernel
theorem dL_drive_6 : decode cL_drive 6 = .ok (.ifCond .lt 50, 3) := by decide +kernel
theorem dL_drive_9 : decode cL_drive 9 = .ok (.aload_n 0, 1) := by decide +kernel
theorem dL_drive_10 : decode cL_drive 10 = .ok (.iload_n 1, 1) := by decide +kernel
theorem dL_drive_11 : decode cL_drive 11 = .ok (.iconst 1, 1) := by decide +kernel
theorem dL_drive_12 : decode cL_drive 12 = .ok (.invokevirtual 9, 3) := by decide +kernel
theorem dL_drive_15 : decode cL_drive 15 = .ok (.ifCond .lt 41, 3) := by decide +kernel
theorem dL_drive_18 : decode cL_drive 18 = .ok (.aload_n 0, 1) := by decide +kernel
theorem dL_drive_19 : decode cL_drive 19 = .ok (.iload_n 1, 1) := by decide +kernel
theorem dL_drive_20 : decode cL_drive 20 = .ok (.iconst 2, 1) := by decide +kernel
theorem dL_drive_21 : decode cL_drive 21 = .ok (.invokevirtual 9, 3) := by decide +kernel
theorem dL_drive_24 : decode cL_drive 24 = .ok (.ifCond .lt 32, 3) := by decide +kernel
theorem dL_drive_27 : decode cL_drive 27 = .ok (.aload_n 0, 1) := by decide +kernel
theorem dL_drive_28 : decode cL_drive 28 = .ok (.iload_n 1, 1) := by decide +kernel
theorem dL_drive_29 : decode cL_drive 29 = .ok (.iconst 0, 1) := by decide +kernel
theorem dL_drive_30 : decode cL_drive 30 = .ok (.invokevirtual 9, 3) := by decide +kernel
theorem dL_drive_33 : decode cL_drive 33 = .ok (.aload_n 0, 1) := by decide +kernel
theorem dL_drive_34 : decode cL_drive 34 = .ok (.iload_n 1, 1) := by decide +kernel
theorem dL_drive_35 : decode cL_drive 35 = .ok (.iconst 1, 1) := by decide +kernel
theorem dL_drive_36 : decode cL_drive 36 = .ok (.invokevirtual 9, 3) := by decide +kernel
theorem dL_drive_39 : decode cL_drive 39 = .ok (.iadd, 1) := by decide +kernel
theorem dL_drive_40 : decode cL_drive 40 = .ok (.aload_n 0, 1) := by decide +kernel
theorem dL_drive_41 : decode cL_drive 41 = .ok (.iload_n 1, 1) := by decide +kernel
theorem dL_drive_42 : decode cL_drive 42 = .ok (.iconst 2, 1) := by decide +kernel
theorem dL_drive_43 : decode cL_drive 43 = .ok (.invokevirtual 9, 3) := by decide +kernel
theorem dL_drive_46 : decode cL_drive 46 = .ok (.iadd, 1) := by decide +kernel
theorem dL_drive_47 : decode cL_drive 47 = .ok (.bipush 60, 2) := by decide +kernel
theorem dL_drive_49 : decode cL_drive 49 = .ok (.if_icmp .ne 7, 3) := by decide +kernel
theorem dL_drive_52 : decode cL_drive 52 = .ok (.iconst 1, 1) := by decide +kernel
theorem dL_drive_53 : decode cL_drive 53 = .ok (.goto 4, 3) := by decide +kernel
theorem dL_drive_56 : decode cL_drive 56 = .ok (.iconst 0, 1) := by decide +kernel
theorem dL_drive_57 : decode cL_drive 57 = .ok (.istore_n 2, 1) := by decide +kernel
theorem dL_drive_58 : decode cL_drive 58 = .ok (.iconst 0, 1) := by decide +kernel
theorem dL_drive_59 : decode cL_drive 59 = .ok (.istore_n 3, 1) := by decide +kernel
theorem dL_drive_60 : decode cL_drive 60 = .ok (.iconst 0, 1) := by decide +kernel
theorem dL_drive_61 : decode cL_drive 61 = .ok (.istore 4, 2) := by decide +kernel
theorem dL_drive_63 : decode cL_drive 63 = .ok (.iconst 0, 1) := by decide +kernel
theorem dL_drive_64 : decode cL_drive 64 = .ok (.istore 5, 2) := by decide +kernel
theorem dL_drive_66 : decode cL_drive 66 = .ok (.iconst 0, 1) := by decide +kernel
theorem dL_drive_67 : decode cL_drive 67 = .ok (.istore 6, 2) := by decide +kernel
theorem dL_drive_69 : decode cL_drive 69 = .ok (.iconst 0, 1) := by decide +kernel
theorem dL_drive_70 : decode cL_drive 70 = .ok (.istore 7, 2) := by decide +kernel
theorem dL_drive_72 : decode cL_drive 72 = .ok (.iload 7, 2) := by decide +kernel
theorem dL_drive_74 : decode cL_drive 74 = .ok (.bipush 100, 2) := by decide +kernel
theorem dL_drive_76 : decode cL_drive 76 = .ok (.if_icmp .ge 160, 3) := by decide +kernel
theorem dL_drive_79 : decode cL_drive 79 = .ok (.iload_n 2, 1) := by decide +kernel
theorem dL_drive_80 : decode cL_drive 80 = .ok (.ifCond .eq 156, 3) := by decide +kernel
theorem dL_drive_83 : decode cL_drive 83 = .ok (.aload_n 0, 1) := by decide +kernel
theorem dL_drive_84 : decode cL_drive 84 = .ok (.iload_n 1, 1) := by decide +kernel
theorem dL_drive_85 : decode cL_drive 85 = .ok (.iload 7, 2) := by decide +kernel
theorem dL_drive_87 : decode cL_drive 87 = .ok (.invokevirtual 15, 3) := by decide +kernel
theorem dL_drive_90 : decode cL_drive 90 = .ok (.istore 8, 2) := by decide +kernel
theorem dL_drive_92 : decode cL_drive 92 = .ok (.iload_n 3, 1) := by decide +kernel
theorem dL_drive_93 : decode cL_drive 93 = .ok (.iload 8, 2) := by decide +kernel
theorem dL_drive_95 : decode cL_drive 95 = .ok (.ifCond .le 7, 3) := by decide +kernel
theorem dL_drive_98 : decode cL_drive 98 = .ok (.iconst 1, 1) := by decide +kernel
theorem dL_drive_99 : decode cL_drive 99 = .ok (.goto 4, 3) := by decide +kernel
theorem dL_drive_102 : decode cL_drive 102 = .ok (.iconst 0, 1) := by decide +kernel
theorem dL_drive_103 : decode cL_drive 103 = .ok (.iadd, 1) := by decide +kernel
theorem dL_drive_104 : decode cL_drive 104 = .ok (.istore_n 3, 1) := by decide +kernel
theorem dL_drive_105 : decode cL_drive 105 = .ok (.iload 4, 2) := by decide +kernel
theorem dL_drive_107 : decode cL_drive 107 = .ok (.iload 8, 2) := by decide +kernel
theorem dL_drive_109 : decode cL_drive 109 = .ok (.iconst 2, 1) := by decide +kernel
theorem dL_drive_110 : decode cL_drive 110 = .ok (.if_icmp .ne 7, 3) := by decide +kernel
theorem dL_drive_113 : decode cL_drive 113 = .ok (.iconst 1, 1) := by decide +kernel
theorem dL_drive_114 : decode cL_drive 114 = .ok (.goto 4, 3) := by decide +kernel
theorem dL_drive_117 : decode cL_drive 117 = .ok (.iconst 0, 1) := by decide +kernel
theorem dL_drive_118 : decode cL_drive 118 = .ok (.iadd, 1) := by decide +kernel
theorem dL_drive_119 : decode cL_drive 119 = .ok (.istore 4, 2) := by decide +kernel
theorem dL_drive_121 : decode cL_drive 121 = .ok (.iload 5, 2) := by decide +kernel
theorem dL_drive_123 : decode cL_drive 123 = .ok (.iload 8, 2) := by decide +kernel
theorem dL_drive_125 : decode cL_drive 125 = .ok (.iconst 3, 1) := by decide +kernel
theorem dL_drive_126 : decode cL_drive 126 = .ok (.if_icmp .ne 7, 3) := by decide +kernel
theorem dL_drive_129 : decode cL_drive 129 = .ok (.iconst 1, 1) := by decide +kernel
theorem dL_drive_130 : decode cL_drive 130 = .ok (.goto 4, 3) := by decide +kernel
theorem dL_drive_133 : decode cL_drive 133 = .ok (.iconst 0, 1) := by decide +kernel
theorem dL_drive_134 : decode cL_drive 134 = .ok (.iadd, 1) := by decide +kernel
theorem dL_drive_135 : decode cL_drive 135 = .ok (.istore 5, 2) := by decide +kernel
theorem dL_drive_137 : decode cL_drive 137 = .ok (.iload 8, 2) := by decide +kernel
theorem dL_drive_139 : decode cL_drive 139 = .ok (.iconst 3, 1) := by decide +kernel
theorem dL_drive_140 : decode cL_drive 140 = .ok (.if_icmp .ne 7, 3) := by decide +kernel
theorem dL_drive_143 : decode cL_drive 143 = .ok (.iconst 0, 1) := by decide +kernel
theorem dL_drive_144 : decode cL_drive 144 = .ok (.goto 18, 3) := by decide +kernel
theorem dL_drive_147 : decode cL_drive 147 = .ok (.iload 8, 2) := by decide +kernel
theorem dL_drive_149 : decode cL_drive 149 = .ok (.iconst 2, 1) := by decide +kernel
theorem dL_drive_150 : decode cL_drive 150 = .ok (.if_icmp .ne 10, 3) := by decide +kernel
theorem dL_drive_153 : decode cL_drive 153 = .ok (.iload 6, 2) := by decide +kernel
theorem dL_drive_155 : decode cL_drive 155 = .ok (.iconst 1, 1) := by decide +kernel
theorem dL_drive_156 : decode cL_drive 156 = .ok (.iadd, 1) := by decide +kernel
theorem dL_drive_157 : decode cL_drive 157 = .ok (.goto 5, 3) := by decide +kernel
theorem dL_drive_160 : decode cL_drive 160 = .ok (.iload 6, 2) := by decide +kernel
theorem dL_drive_162 : decode cL_drive 162 = .ok (.istore 6, 2) := by decide +kernel
theorem dL_drive_164 : decode cL_drive 164 = .ok (.iload 8, 2) := by decide +kernel
theorem dL_drive_166 : decode cL_drive 166 = .ok (.iconst 2, 1) := by decide +kernel
theorem dL_drive_167 : decode cL_drive 167 = .ok (.if_icmp .lt 13, 3) := by decide +kernel
theorem dL_drive_170 : decode cL_drive 170 = .ok (.iload 7, 2) := by decide +kernel
theorem dL_drive_172 : decode cL_drive 172 = .ok (.aload_n 0, 1) := by decide +kernel
theorem dL_drive_173 : decode cL_drive 173 = .ok (.iconst 1, 1) := by decide +kernel
theorem dL_drive_174 : decode cL_drive 174 = .ok (.invokevirtual 18, 3) := by decide +kernel
theorem dL_drive_177 : decode cL_drive 177 = .ok (.if_icmp .gt 51, 3) := by decide +kernel
theorem dL_drive_180 : decode cL_drive 180 = .ok (.iload 8, 2) := by decide +kernel
theorem dL_drive_182 : decode cL_drive 182 = .ok (.iconst 2, 1) := by decide +kernel
theorem dL_drive_183 : decode cL_drive 183 = .ok (.if_icmp .ne 19, 3) := by decide +kernel
theorem dL_drive_186 : decode cL_drive 186 = .ok (.bipush 60, 2) := by decide +kernel
theorem dL_drive_188 : decode cL_drive 188 = .ok (.iload 7, 2) := by decide +kernel
theorem dL_drive_190 : decode cL_drive 190 = .ok (.imul, 1) := by decide +kernel
theorem dL_drive_191 : decode cL_drive 191 = .ok (.bipush 60, 2) := by decide +kernel
theorem dL_drive_193 : decode cL_drive 193 = .ok (.iadd, 1) := by decide +kernel
theorem dL_drive_194 : decode cL_drive 194 = .ok (.aload_n 0, 1) := by decide +kernel
theorem dL_drive_195 : decode cL_drive 195 = .ok (.iconst 0, 1) := by decide +kernel
theorem dL_drive_196 : decode cL_drive 196 = .ok (.invokevirtual 18, 3) := by decide +kernel
theorem dL_drive_199 : decode cL_drive 199 = .ok (.if_icmp .ge 29, 3) := by decide +kernel
theorem dL_drive_202 : decode cL_drive 202 = .ok (.iload 8, 2) := by decide +kernel
theorem dL_drive_204 : decode cL_drive 204 = .ok (.iconst 1, 1) := by decide +kernel
theorem dL_drive_205 : decode cL_drive 205 = .ok (.if_icmp .ne 19, 3) := by decide +kernel
theorem dL_drive_208 : decode cL_drive 208 = .ok (.bipush 60, 2) := by decide +kernel
theorem dL_drive_210 : decode cL_drive 210 = .ok (.iload 7, 2) := by decide +kernel
theorem dL_drive_212 : decode cL_drive 212 = .ok (.imul, 1) := by decide +kernel
theorem dL_drive_213 : decode cL_drive 213 = .ok (.bipush 60, 2) := by decide +kernel
theorem dL_drive_215 : decode cL_drive 215 = .ok (.iadd, 1) := by decide +kernel
