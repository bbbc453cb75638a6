theorem dX5_passesOne_64 : decode cX5_passesOne 64 = .ok (.invokestatic 82, 3) := by decide +kernel
theorem dX5_passesOne_67 : decode cX5_passesOne 67 = .ok (.istore_n 3, 1) := by decide +kernel
theorem dX5_passesOne_68 : decode cX5_passesOne 68 = .ok (.aload_n 0, 1) := by decide +kernel
theorem dX5_passesOne_69 : decode cX5_passesOne 69 = .ok (.iload_n 1, 1) := by decide +kernel
theorem dX5_passesOne_70 : decode cX5_passesOne 70 = .ok (.iload_n 3, 1) := by decide +kernel
theorem dX5_passesOne_71 : decode cX5_passesOne 71 = .ok (.invokestatic 90, 3) := by decide +kernel
theorem dX5_passesOne_74 : decode cX5_passesOne 74 = .ok (.aload_n 0, 1) := by decide +kernel
theorem dX5_passesOne_75 : decode cX5_passesOne 75 = .ok (.iload_n 1, 1) := by decide +kernel
theorem dX5_passesOne_76 : decode cX5_passesOne 76 = .ok (.iload_n 3, 1) := by decide +kernel
theorem dX5_passesOne_77 : decode cX5_passesOne 77 = .ok (.invokestatic 94, 3) := by decide +kernel
theorem dX5_passesOne_80 : decode cX5_passesOne 80 = .ok (.iinc 1 1, 3) := by decide +kernel
theorem dX5_passesOne_83 : decode cX5_passesOne 83 = .ok (.goto (-81), 3) := by decide +kernel
theorem dX5_passesOne_86 : decode cX5_passesOne 86 = .ok (.iconst 0, 1) := by decide +kernel
theorem dX5_passesOne_87 : decode cX5_passesOne 87 = .ok (.istore_n 1, 1) := by decide +kernel
theorem dX5_passesOne_88 : decode cX5_passesOne 88 = .ok (.iload_n 1, 1) := by decide +kernel
theorem dX5_passesOne_89 : decode cX5_passesOne 89 = .ok (.iconst 4, 1) := by decide +kernel
theorem dX5_passesOne_90 : decode cX5_passesOne 90 = .ok (.if_icmp .ge 29, 3) := by decide +kernel
theorem dX5_passesOne_93 : decode cX5_passesOne 93 = .ok (.aload_n 0, 1) := by decide +kernel
theorem dX5_passesOne_94 : decode cX5_passesOne 94 = .ok (.iload_n 1, 1) := by decide +kernel
theorem dX5_passesOne_95 : decode cX5_passesOne 95 = .ok (.invokestatic 45, 3) := by decide +kernel
theorem dX5_passesOne_98 : decode cX5_passesOne 98 = .ok (.bipush 10, 2) := by decide +kernel
theorem dX5_passesOne_100 : decode cX5_passesOne 100 = .ok (.iadd, 1) := by decide +kernel
theorem dX5_passesOne_101 : decode cX5_passesOne 101 = .ok (.dup2, 1) := by decide +kernel
theorem dX5_passesOne_102 : decode cX5_passesOne 102 = .ok (.laload, 1) := by decide +kernel
theorem dX5_passesOne_103 : decode cX5_passesOne 103 = .ok (.aload_n 0, 1) := by decide +kernel
theorem dX5_passesOne_104 : decode cX5_passesOne 104 = .ok (.iload_n 1, 1) := by decide +kernel
theorem dX5_passesOne_105 : decode cX5_passesOne 105 = .ok (.invokestatic 45, 3) := by decide +kernel
theorem dX5_passesOne_108 : decode cX5_passesOne 108 = .ok (.iconst 3, 1) := by decide +kernel
theorem dX5_passesOne_109 : decode cX5_passesOne 109 = .ok (.iadd, 1) := by decide +kernel
theorem dX5_passesOne_110 : decode cX5_passesOne 110 = .ok (.laload, 1) := by decide +kernel
theorem dX5_passesOne_111 : decode cX5_passesOne 111 = .ok (.ladd, 1) := by decide +kernel
theorem dX5_passesOne_112 : decode cX5_passesOne 112 = .ok (.lastore, 1) := by decide +kernel
theorem dX5_passesOne_113 : decode cX5_passesOne 113 = .ok (.iinc 1 1, 3) := by decide +kernel
theorem dX5_passesOne_116 : decode cX5_passesOne 116 = .ok (.goto (-28), 3) := by decide +kernel
theorem dX5_passesOne_119 : decode cX5_passesOne 119 = .ok (.aload_n 0, 1) := by decide +kernel
theorem dX5_passesOne_120 : decode cX5_passesOne 120 = .ok (.iconst 0, 1) := by decide +kernel
theorem dX5_passesOne_121 : decode cX5_passesOne 121 = .ok (.dup2, 1) := by decide +kernel
theorem dX5_passesOne_122 : decode cX5_passesOne 122 = .ok (.laload, 1) := by decide +kernel
theorem dX5_passesOne_123 : decode cX5_passesOne 123 = .ok (.lconst 1, 1) := by decide +kernel
theorem dX5_passesOne_124 : decode cX5_passesOne 124 = .ok (.ladd, 1) := by decide +kernel
theorem dX5_passesOne_125 : decode cX5_passesOne 125 = .ok (.lastore, 1) := by decide +kernel
theorem dX5_passesOne_126 : decode cX5_passesOne 126 = .ok (.return_, 1) := by decide +kernel
theorem dX5_overruns_0 : decode cX5_overruns 0 = .ok (.lconst 0, 1) := by decide +kernel
theorem dX5_overruns_1 : decode cX5_overruns 1 = .ok (.lstore_n 1, 1) := by decide +kernel
theorem dX5_overruns_2 : decode cX5_overruns 2 = .ok (.iconst 0, 1) := by decide +kernel
theorem dX5_overruns_3 : decode cX5_overruns 3 = .ok (.istore_n 3, 1) := by decide +kernel
theorem dX5_overruns_4 : decode cX5_overruns 4 = .ok (.iload_n 3, 1) := by decide +kernel
theorem dX5_overruns_5 : decode cX5_overruns 5 = .ok (.iconst 4, 1) := by decide +kernel
theorem dX5_overruns_6 : decode cX5_overruns 6 = .ok (.if_icmp .ge 21, 3) := by decide +kernel
theorem dX5_overruns_9 : decode cX5_overruns 9 = .ok (.lload_n 1, 1) := by decide +kernel
theorem dX5_overruns_10 : decode cX5_overruns 10 = .ok (.aload_n 0, 1) := by decide +kernel
theorem dX5_overruns_11 : decode cX5_overruns 11 = .ok (.iload_n 3, 1) := by decide +kernel
theorem dX5_overruns_12 : decode cX5_overruns 12 = .ok (.invokestatic 45, 3) := by decide +kernel
theorem dX5_overruns_15 : decode cX5_overruns 15 = .ok (.bipush 7, 2) := by decide +kernel
theorem dX5_overruns_17 : decode cX5_overruns 17 = .ok (.iadd, 1) := by decide +kernel
theorem dX5_overruns_18 : decode cX5_overruns 18 = .ok (.laload, 1) := by decide +kernel
theorem dX5_overruns_19 : decode cX5_overruns 19 = .ok (.ladd, 1) := by decide +kernel
theorem dX5_overruns_20 : decode cX5_overruns 20 = .ok (.lstore_n 1, 1) := by decide +kernel
theorem dX5_overruns_21 : decode cX5_overruns 21 = .ok (.iinc 3 1, 3) := by decide +kernel
theorem dX5_overruns_24 : decode cX5_overruns 24 = .ok (.goto (-20), 3) := by decide +kernel
theorem dX5_overruns_27 : decode cX5_overruns 27 = .ok (.lload_n 1, 1) := by decide +kernel
theorem dX5_overruns_28 : decode cX5_overruns 28 = .ok (.lreturn, 1) := by decide +kernel
theorem dX5_isFor_0 : decode cX5_isFor 0 = .ok (.iload_n 0, 1) := by decide +kernel
theorem dX5_isFor_1 : decode cX5_isFor 1 = .ok (.ifCond .ne 15, 3) := by decide +kernel
theorem dX5_isFor_4 : decode cX5_isFor 4 = .ok (.iload_n 1, 1) := by decide +kernel
theorem dX5_isFor_5 : decode cX5_isFor 5 = .ok (.i2l, 1) := by decide +kernel
theorem dX5_isFor_6 : decode cX5_isFor 6 = .ok (.lconst 0, 1) := by decide +kernel
theorem dX5_isFor_7 : decode cX5_isFor 7 = .ok (.ldc2_w 97, 3) := by decide +kernel
theorem dX5_isFor_10 : decode cX5_isFor 10 = .ok (.invokestatic 51, 3) := by decide +kernel
theorem dX5_isFor_13 : decode cX5_isFor 13 = .ok (.goto 63, 3) := by decide +kernel
theorem dX5_isFor_16 : decode cX5_isFor 16 = .ok (.iload_n 0, 1) := by decide +kernel
theorem dX5_isFor_17 : decode cX5_isFor 17 = .ok (.iconst 1, 1) := by decide +kernel
theorem dX5_isFor_18 : decode cX5_isFor 18 = .ok (.if_icmp .ne 15, 3) := by decide +kernel
theorem dX5_isFor_21 : decode cX5_isFor 21 = .ok (.iload_n 1, 1) := by decide +kernel
theorem dX5_isFor_22 : decode cX5_isFor 22 = .ok (.i2l, 1) := by decide +kernel
theorem dX5_isFor_23 : decode cX5_isFor 23 = .ok (.lconst 0, 1) := by decide +kernel
theorem dX5_isFor_24 : decode cX5_isFor 24 = .ok (.ldc2_w 55, 3) := by decide +kernel
theorem dX5_isFor_27 : decode cX5_isFor 27 = .ok (.invokestatic 51, 3) := by decide +kernel
theorem dX5_isFor_30 : decode cX5_isFor 30 = .ok (.goto 46, 3) := by decide +kernel
theorem dX5_isFor_33 : decode cX5_isFor 33 = .ok (.iload_n 0, 1) := by decide +kernel
theorem dX5_isFor_34 : decode cX5_isFor 34 = .ok (.iconst 2, 1) := by decide +kernel
theorem dX5_isFor_35 : decode cX5_isFor 35 = .ok (.if_icmp .ne 15, 3) := by decide +kernel
theorem dX5_isFor_38 : decode cX5_isFor 38 = .ok (.iload_n 1, 1) := by decide +kernel
theorem dX5_isFor_39 : decode cX5_isFor 39 = .ok (.i2l, 1) := by decide +kernel
theorem dX5_isFor_40 : decode cX5_isFor 40 = .ok (.lconst 0, 1) := by decide +kernel
theorem dX5_isFor_41 : decode cX5_isFor 41 = .ok (.ldc2_w 99, 3) := by decide +kernel
theorem dX5_isFor_44 : decode cX5_isFor 44 = .ok (.invokestatic 51, 3) := by decide +kernel
theorem dX5_isFor_47 : decode cX5_isFor 47 = .ok (.goto 29, 3) := by decide +kernel
theorem dX5_isFor_50 : decode cX5_isFor 50 = .ok (.iload_n 0, 1) := by decide +kernel
theorem dX5_isFor_51 : decode cX5_isFor 51 = .ok (.iconst 5, 1) := by decide +kernel
theorem dX5_isFor_52 : decode cX5_isFor 52 = .ok (.if_icmp .ne 15, 3) := by decide +kernel
theorem dX5_isFor_55 : decode cX5_isFor 55 = .ok (.iload_n 1, 1) := by decide +kernel
theorem dX5_isFor_56 : decode cX5_isFor 56 = .ok (.i2l, 1) := by decide +kernel
theorem dX5_isFor_57 : decode cX5_isFor 57 = .ok (.lconst 1, 1) := by decide +kernel
theorem dX5_isFor_58 : decode cX5_isFor 58 = .ok (.ldc2_w 39, 3) := by decide +kernel
theorem dX5_isFor_61 : decode cX5_isFor 61 = .ok (.invokestatic 51, 3) := by decide +kernel
theorem dX5_isFor_64 : decode cX5_isFor 64 = .ok (.goto 12, 3) := by decide +kernel
theorem dX5_isFor_67 : decode cX5_isFor 67 = .ok (.iload_n 1, 1) := by decide +kernel
theorem dX5_isFor_68 : decode cX5_isFor 68 = .ok (.i2l, 1) := by decide +kernel
theorem dX5_isFor_69 : decode cX5_isFor 69 = .ok (.lconst 0, 1) := by decide +kernel
theorem dX5_isFor_70 : decode cX5_isFor 70 = .ok (.ldc2_w 33, 3) := by decide +kernel
theorem dX5_isFor_73 : decode cX5_isFor 73 = .ok (.invokestatic 51, 3) := by decide +kernel
theorem dX5_isFor_76 : decode cX5_isFor 76 = .ok (.ireturn, 1) := by decide +kernel
theorem dX5_set_0 : decode cX5_set 0 = .ok (.iload_n 1, 1) := by decide +kernel
theorem dX5_set_1 : decode cX5_set 1 = .ok (.i2l, 1) := by decide +kernel
theorem dX5_set_2 : decode cX5_set 2 = .ok (.lconst 0, 1) := by decide +kernel
theorem dX5_set_3 : decode cX5_set 3 = .ok (.ldc2_w 101, 3) := by decide +kernel
theorem dX5_set_6 : decode cX5_set 6 = .ok (.invokestatic 51, 3) := by decide +kernel
theorem dX5_set_9 : decode cX5_set 9 = .ok (.ifCond .eq 11, 3) := by decide +kernel
theorem dX5_set_12 : decode cX5_set 12 = .ok (.iload_n 1, 1) := by decide +kernel
theorem dX5_set_13 : decode cX5_set 13 = .ok (.iload_n 2, 1) := by decide +kernel
theorem dX5_set_14 : decode cX5_set 14 = .ok (.invokestatic 103, 3) := by decide +kernel
theorem dX5_set_17 : decode cX5_set 17 = .ok (.ifCond .ne 6, 3) := by decide +kernel
theorem dX5_set_20 : decode cX5_set 20 = .ok (.bipush (-2), 2) := by decide +kernel
theorem dX5_set_22 : decode cX5_set 22 = .ok (.ireturn, 1) := by decide +kernel
theorem dX5_set_23 : decode cX5_set 23 = .ok (.aload_n 0, 1) := by decide +kernel
theorem dX5_set_24 : decode cX5_set 24 = .ok (.invokevirtual 65, 3) := by decide +kernel
theorem dX5_set_27 : decode cX5_set 27 = .ok (.aload_n 0, 1) := by decide +kernel
theorem dX5_set_28 : decode cX5_set 28 = .ok (.getfield 7, 3) := by decide +kernel
theorem dX5_set_31 : decode cX5_set 31 = .ok (.iconst 5, 1) := by decide +kernel
theorem dX5_set_32 : decode cX5_set 32 = .ok (.iload_n 1, 1) := by decide +kernel
theorem dX5_set_33 : decode cX5_set 33 = .ok (.iadd, 1) := by decide +kernel
theorem dX5_set_34 : decode cX5_set 34 = .ok (.laload, 1) := by decide +kernel
theorem dX5_set_35 : decode cX5_set 35 = .ok (.l2i, 1) := by decide +kernel
theorem dX5_set_36 : decode cX5_set 36 = .ok (.istore_n 3, 1) := by decide +kernel
theorem dX5_set_37 : decode cX5_set 37 = .ok (.aload_n 0, 1) := by decide +kernel
theorem dX5_set_38 : decode cX5_set 38 = .ok (.getfield 7, 3) := by decide +kernel
theorem dX5_set_41 : decode cX5_set 41 = .ok (.iconst 5, 1) := by decide +kernel
theorem dX5_set_42 : decode cX5_set 42 = .ok (.iload_n 1, 1) := by decide +kernel
theorem dX5_set_43 : decode cX5_set 43 = .ok (.iadd, 1) := by decide +kernel
theorem dX5_set_44 : decode cX5_set 44 = .ok (.iload_n 2, 1) := by decide +kernel
theorem dX5_set_45 : decode cX5_set 45 = .ok (.i2l, 1) := by decide +kernel
theorem dX5_set_46 : decode cX5_set 46 = .ok (.lastore, 1) := by decide +kernel
theorem dX5_set_47 : decode cX5_set 47 = .ok (.iload_n 3, 1) := by decide +kernel
theorem dX5_set_48 : decode cX5_set 48 = .ok (.ireturn, 1) := by decide +kernel
theorem dX5_mayStream_0 : decode cX5_mayStream 0 = .ok (.iload_n 1, 1) := by decide +kernel
theorem dX5_mayStream_1 : decode cX5_mayStream 1 = .ok (.invokestatic 107, 3) := by decide +kernel
theorem dX5_mayStream_4 : decode cX5_mayStream 4 = .ok (.ifCond .ne 5, 3) := by decide +kernel
theorem dX5_mayStream_7 : decode cX5_mayStream 7 = .ok (.iconst (-1), 1) := by decide +kernel
theorem dX5_mayStream_8 : decode cX5_mayStream 8 = .ok (.ireturn, 1) := by decide +kernel
theorem dX5_mayStream_9 : decode cX5_mayStream 9 = .ok (.iload_n 2, 1) := by decide +kernel
theorem dX5_mayStream_10 : decode cX5_mayStream 10 = .ok (.i2l, 1) := by decide +kernel
theorem dX5_mayStream_11 : decode cX5_mayStream 11 = .ok (.lconst 1, 1) := by decide +kernel
theorem dX5_mayStream_12 : decode cX5_mayStream 12 = .ok (.ldc2_w 33, 3) := by decide +kernel
theorem dX5_mayStream_15 : decode cX5_mayStream 15 = .ok (.invokestatic 51, 3) := by decide +kernel
theorem dX5_mayStream_18 : decode cX5_mayStream 18 = .ok (.ifCond .eq 19, 3) := by decide +kernel
theorem dX5_mayStream_21 : decode cX5_mayStream 21 = .ok (.iload_n 3, 1) := by decide +kernel
theorem dX5_mayStream_22 : decode cX5_mayStream 22 = .ok (.i2l, 1) := by decide +kernel
theorem dX5_mayStream_23 : decode cX5_mayStream 23 = .ok (.lconst 0, 1) := by decide +kernel
theorem dX5_mayStream_24 : decode cX5_mayStream 24 = .ok (.ldc2_w 39, 3) := by decide +kernel
theorem dX5_mayStream_27 : decode cX5_mayStream 27 = .ok (.invokestatic 51, 3) := by decide +kernel
theorem dX5_mayStream_30 : decode cX5_mayStream 30 = .ok (.ifCond .eq 7, 3) := by decide +kernel
theorem dX5_mayStream_33 : decode cX5_mayStream 33 = .ok (.iconst 0, 1) := by decide +kernel
theorem dX5_mayStream_34 : decode cX5_mayStream 34 = .ok (.goto 5, 3) := by decide +kernel
theorem dX5_mayStream_37 : decode cX5_mayStream 37 = .ok (.bipush (-2), 2) := by decide +kernel
theorem dX5_mayStream_39 : decode cX5_mayStream 39 = .ok (.ireturn, 1) := by decide +kernel
theorem dX5_streams_0 : decode cX5_streams 0 = .ok (.aload_n 0, 1) := by decide +kernel
theorem dX5_streams_1 : decode cX5_streams 1 = .ok (.getfield 7, 3) := by decide +kernel
theorem dX5_streams_4 : decode cX5_streams 4 = .ok (.iload_n 1, 1) := by decide +kernel
theorem dX5_streams_5 : decode cX5_streams 5 = .ok (.invokestatic 45, 3) := by decide +kernel
theorem dX5_streams_8 : decode cX5_streams 8 = .ok (.bipush 9, 2) := by decide +kernel
theorem dX5_streams_10 : decode cX5_streams 10 = .ok (.iadd, 1) := by decide +kernel
theorem dX5_streams_11 : decode cX5_streams 11 = .ok (.laload, 1) := by decide +kernel
theorem dX5_streams_12 : decode cX5_streams 12 = .ok (.l2i, 1) := by decide +kernel
theorem dX5_streams_13 : decode cX5_streams 13 = .ok (.istore 4, 2) := by decide +kernel
theorem dX5_streams_15 : decode cX5_streams 15 = .ok (.aload_n 0, 1) := by decide +kernel
theorem dX5_streams_16 : decode cX5_streams 16 = .ok (.getfield 7, 3) := by decide +kernel
theorem dX5_streams_19 : decode cX5_streams 19 = .ok (.iload_n 1, 1) := by decide +kernel
theorem dX5_streams_20 : decode cX5_streams 20 = .ok (.invokestatic 45, 3) := by decide +kernel
theorem dX5_streams_23 : decode cX5_streams 23 = .ok (.bipush 8, 2) := by decide +kernel
theorem dX5_streams_25 : decode cX5_streams 25 = .ok (.iadd, 1) := by decide +kernel
theorem dX5_streams_26 : decode cX5_streams 26 = .ok (.iload_n 2, 1) := by decide +kernel
theorem dX5_streams_27 : decode cX5_streams 27 = .ok (.i2l, 1) := by decide +kernel
theorem dX5_streams_28 : decode cX5_streams 28 = .ok (.lastore, 1) := by decide +kernel
theorem dX5_streams_29 : decode cX5_streams 29 = .ok (.aload_n 0, 1) := by decide +kernel
theorem dX5_streams_30 : decode cX5_streams 30 = .ok (.getfield 7, 3) := by decide +kernel
theorem dX5_streams_33 : decode cX5_streams 33 = .ok (.iload_n 1, 1) := by decide +kernel
theorem dX5_streams_34 : decode cX5_streams 34 = .ok (.invokestatic 45, 3) := by decide +kernel
theorem dX5_streams_37 : decode cX5_streams 37 = .ok (.bipush 9, 2) := by decide +kernel
theorem dX5_streams_39 : decode cX5_streams 39 = .ok (.iadd, 1) := by decide +kernel
theorem dX5_streams_40 : decode cX5_streams 40 = .ok (.iload_n 3, 1) := by decide +kernel
theorem dX5_streams_41 : decode cX5_streams 41 = .ok (.i2l, 1) := by decide +kernel
theorem dX5_streams_42 : decode cX5_streams 42 = .ok (.lastore, 1) := by decide +kernel
theorem dX5_streams_43 : decode cX5_streams 43 = .ok (.iload 4, 2) := by decide +kernel
theorem dX5_streams_45 : decode cX5_streams 45 = .ok (.ireturn, 1) := by decide +kernel
theorem dX5_stream_0 : decode cX5_stream 0 = .ok (.aload_n 0, 1) := by decide +kernel
theorem dX5_stream_1 : decode cX5_stream 1 = .ok (.iload_n 1, 1) := by decide +kernel
theorem dX5_stream_2 : decode cX5_stream 2 = .ok (.iload_n 2, 1) := by decide +kernel
theorem dX5_stream_3 : decode cX5_stream 3 = .ok (.iload_n 3, 1) := by decide +kernel
theorem dX5_stream_4 : decode cX5_stream 4 = .ok (.invokevirtual 111, 3) := by decide +kernel
theorem dX5_stream_7 : decode cX5_stream 7 = .ok (.istore 4, 2) := by decide +kernel
theorem dX5_stream_9 : decode cX5_stream 9 = .ok (.iload 4, 2) := by decide +kernel
theorem dX5_stream_11 : decode cX5_stream 11 = .ok (.ifCond .eq 6, 3) := by decide +kernel
theorem dX5_stream_14 : decode cX5_stream 14 = .ok (.iload 4, 2) := by decide +kernel
theorem dX5_stream_16 : decode cX5_stream 16 = .ok (.ireturn, 1) := by decide +kernel
theorem dX5_stream_17 : decode cX5_stream 17 = .ok (.aload_n 0, 1) := by decide +kernel
theorem dX5_stream_18 : decode cX5_stream 18 = .ok (.invokevirtual 65, 3) := by decide +kernel
theorem dX5_stream_21 : decode cX5_stream 21 = .ok (.aload_n 0, 1) := by decide +kernel
theorem dX5_stream_22 : decode cX5_stream 22 = .ok (.iload_n 1, 1) := by decide +kernel
theorem dX5_stream_23 : decode cX5_stream 23 = .ok (.iload_n 2, 1) := by decide +kernel
theorem dX5_stream_24 : decode cX5_stream 24 = .ok (.iload_n 3, 1) := by decide +kernel
theorem dX5_stream_25 : decode cX5_stream 25 = .ok (.invokevirtual 115, 3) := by decide +kernel
theorem dX5_stream_28 : decode cX5_stream 28 = .ok (.ireturn, 1) := by decide +kernel
theorem dX5_mayWrite_0 : decode cX5_mayWrite 0 = .ok (.iload_n 1, 1) := by decide +kernel
theorem dX5_mayWrite_1 : decode cX5_mayWrite 1 = .ok (.invokestatic 107, 3) := by decide +kernel
theorem dX5_mayWrite_4 : decode cX5_mayWrite 4 = .ok (.ifCond .ne 5, 3) := by decide +kernel
theorem dX5_mayWrite_7 : decode cX5_mayWrite 7 = .ok (.iconst (-1), 1) := by decide +kernel
theorem dX5_mayWrite_8 : decode cX5_mayWrite 8 = .ok (.ireturn, 1) := by decide +kernel
theorem dX5_mayWrite_9 : decode cX5_mayWrite 9 = .ok (.iload_n 2, 1) := by decide +kernel
theorem dX5_mayWrite_10 : decode cX5_mayWrite 10 = .ok (.i2l, 1) := by decide +kernel
theorem dX5_mayWrite_11 : decode cX5_mayWrite 11 = .ok (.lconst 1, 1) := by decide +kernel
theorem dX5_mayWrite_12 : decode cX5_mayWrite 12 = .ok (.ldc2_w 118, 3) := by decide +kernel
theorem dX5_mayWrite_15 : decode cX5_mayWrite 15 = .ok (.invokestatic 51, 3) := by decide +kernel
theorem dX5_mayWrite_18 : decode cX5_mayWrite 18 = .ok (.ifCond .ne 6, 3) := by decide +kernel
theorem dX5_mayWrite_21 : decode cX5_mayWrite 21 = .ok (.bipush (-2), 2) := by decide +kernel
theorem dX5_mayWrite_23 : decode cX5_mayWrite 23 = .ok (.ireturn, 1) := by decide +kernel
theorem dX5_mayWrite_24 : decode cX5_mayWrite 24 = .ok (.aload_n 0, 1) := by decide +kernel
theorem dX5_mayWrite_25 : decode cX5_mayWrite 25 = .ok (.getfield 7, 3) := by decide +kernel
theorem dX5_mayWrite_28 : decode cX5_mayWrite 28 = .ok (.iload_n 1, 1) := by decide +kernel
theorem dX5_mayWrite_29 : decode cX5_mayWrite 29 = .ok (.invokestatic 45, 3) := by decide +kernel
theorem dX5_mayWrite_32 : decode cX5_mayWrite 32 = .ok (.iconst 3, 1) := by decide +kernel
theorem dX5_mayWrite_33 : decode cX5_mayWrite 33 = .ok (.iadd, 1) := by decide +kernel
theorem dX5_mayWrite_34 : decode cX5_mayWrite 34 = .ok (.laload, 1) := by decide +kernel
theorem dX5_mayWrite_35 : decode cX5_mayWrite 35 = .ok (.iload_n 2, 1) := by decide +kernel
theorem dX5_mayWrite_36 : decode cX5_mayWrite 36 = .ok (.i2l, 1) := by decide +kernel
theorem dX5_mayWrite_37 : decode cX5_mayWrite 37 = .ok (.ladd, 1) := by decide +kernel
theorem dX5_mayWrite_38 : decode cX5_mayWrite 38 = .ok (.ldc2_w 120, 3) := by decide +kernel
theorem dX5_mayWrite_41 : decode cX5_mayWrite 41 = .ok (.lcmp, 1) := by decide +kernel
theorem dX5_mayWrite_42 : decode cX5_mayWrite 42 = .ok (.ifCond .le 8, 3) := by decide +kernel
theorem dX5_mayWrite_45 : decode cX5_mayWrite 45 = .ok (.bipush (-4), 2) := by decide +kernel
theorem dX5_mayWrite_47 : decode cX5_mayWrite 47 = .ok (.goto 4, 3) := by decide +kernel
theorem dX5_mayWrite_50 : decode cX5_mayWrite 50 = .ok (.iconst 0, 1) := by decide +kernel
theorem dX5_mayWrite_51 : decode cX5_mayWrite 51 = .ok (.ireturn, 1) := by decide +kernel
theorem dX5_comes_0 : decode cX5_comes 0 = .ok (.aload_n 0, 1) := by decide +kernel
theorem dX5_comes_1 : decode cX5_comes 1 = .ok (.getfield 7, 3) := by decide +kernel
theorem dX5_comes_4 : decode cX5_comes 4 = .ok (.iload_n 1, 1) := by decide +kernel
theorem dX5_comes_5 : decode cX5_comes 5 = .ok (.invokestatic 45, 3) := by decide +kernel
theorem dX5_comes_8 : decode cX5_comes 8 = .ok (.iconst 3, 1) := by decide +kernel
theorem dX5_comes_9 : decode cX5_comes 9 = .ok (.iadd, 1) := by decide +kernel
theorem dX5_comes_10 : decode cX5_comes 10 = .ok (.dup2, 1) := by decide +kernel
theorem dX5_comes_11 : decode cX5_comes 11 = .ok (.laload, 1) := by decide +kernel
theorem dX5_comes_12 : decode cX5_comes 12 = .ok (.iload_n 2, 1) := by decide +kernel
theorem dX5_comes_13 : decode cX5_comes 13 = .ok (.i2l, 1) := by decide +kernel
theorem dX5_comes_14 : decode cX5_comes 14 = .ok (.ladd, 1) := by decide +kernel
theorem dX5_comes_15 : decode cX5_comes 15 = .ok (.lastore, 1) := by decide +kernel
theorem dX5_comes_16 : decode cX5_comes 16 = .ok (.aload_n 0, 1) := by decide +kernel
theorem dX5_comes_17 : decode cX5_comes 17 = .ok (.getfield 7, 3) := by decide +kernel
theorem dX5_comes_20 : decode cX5_comes 20 = .ok (.iload_n 1, 1) := by decide +kernel
theorem dX5_comes_21 : decode cX5_comes 21 = .ok (.invokestatic 45, 3) := by decide +kernel
theorem dX5_comes_24 : decode cX5_comes 24 = .ok (.iconst 3, 1) := by decide +kernel
theorem dX5_comes_25 : decode cX5_comes 25 = .ok (.iadd, 1) := by decide +kernel
theorem dX5_comes_26 : decode cX5_comes 26 = .ok (.laload, 1) := by decide +kernel
theorem dX5_comes_27 : decode cX5_comes 27 = .ok (.l2i, 1) := by decide +kernel
theorem dX5_comes_28 : decode cX5_comes 28 = .ok (.ireturn, 1) := by decide +kernel
theorem dX5_write_0 : decode cX5_write 0 = .ok (.aload_n 0, 1) := by decide +kernel
theorem dX5_write_1 : decode cX5_write 1 = .ok (.iload_n 1, 1) := by decide +kernel
theorem dX5_write_2 : decode cX5_write 2 = .ok (.iload_n 2, 1) := by decide +kernel
theorem dX5_write_3 : decode cX5_write 3 = .ok (.invokevirtual 122, 3) := by decide +kernel
theorem dX5_write_6 : decode cX5_write 6 = .ok (.istore_n 3, 1) := by decide +kernel
theorem dX5_write_7 : decode cX5_write 7 = .ok (.iload_n 3, 1) := by decide +kernel
theorem dX5_write_8 : decode cX5_write 8 = .ok (.ifCond .eq 5, 3) := by decide +kernel
theorem dX5_write_11 : decode cX5_write 11 = .ok (.iload_n 3, 1) := by decide +kernel
theorem dX5_write_12 : decode cX5_write 12 = .ok (.ireturn, 1) := by decide +kernel
theorem dX5_write_13 : decode cX5_write 13 = .ok (.aload_n 0, 1) := by decide +kernel
theorem dX5_write_14 : decode cX5_write 14 = .ok (.invokevirtual 65, 3) := by decide +kernel
theorem dX5_write_17 : decode cX5_write 17 = .ok (.aload_n 0, 1) := by decide +kernel
theorem dX5_write_18 : decode cX5_write 18 = .ok (.iload_n 1, 1) := by decide +kernel
theorem dX5_write_19 : decode cX5_write 19 = .ok (.iload_n 2, 1) := by decide +kernel
theorem dX5_write_20 : decode cX5_write 20 = .ok (.invokevirtual 126, 3) := by decide +kernel
theorem dX5_write_23 : decode cX5_write 23 = .ok (.ireturn, 1) := by decide +kernel
theorem dX5_mayTrade_0 : decode cX5_mayTrade 0 = .ok (.iload_n 1, 1) := by decide +kernel
theorem dX5_mayTrade_1 : decode cX5_mayTrade 1 = .ok (.invokestatic 107, 3) := by decide +kernel
theorem dX5_mayTrade_4 : decode cX5_mayTrade 4 = .ok (.ifCond .ne 5, 3) := by decide +kernel
theorem dX5_mayTrade_7 : decode cX5_mayTrade 7 = .ok (.iconst (-1), 1) := by decide +kernel
theorem dX5_mayTrade_8 : decode cX5_mayTrade 8 = .ok (.ireturn, 1) := by decide +kernel
theorem dX5_mayTrade_9 : decode cX5_mayTrade 9 = .ok (.iload_n 2, 1) := by decide +kernel
theorem dX5_mayTrade_10 : decode cX5_mayTrade 10 = .ok (.invokestatic 129, 3) := by decide +kernel
theorem dX5_mayTrade_13 : decode cX5_mayTrade 13 = .ok (.ifCond .ne 6, 3) := by decide +kernel
theorem dX5_mayTrade_16 : decode cX5_mayTrade 16 = .ok (.bipush (-2), 2) := by decide +kernel
theorem dX5_mayTrade_18 : decode cX5_mayTrade 18 = .ok (.ireturn, 1) := by decide +kernel
theorem dX5_mayTrade_19 : decode cX5_mayTrade 19 = .ok (.iload_n 2, 1) := by decide +kernel
theorem dX5_mayTrade_20 : decode cX5_mayTrade 20 = .ok (.i2l, 1) := by decide +kernel
theorem dX5_mayTrade_21 : decode cX5_mayTrade 21 = .ok (.aload_n 0, 1) := by decide +kernel
theorem dX5_mayTrade_22 : decode cX5_mayTrade 22 = .ok (.getfield 7, 3) := by decide +kernel
theorem dX5_mayTrade_25 : decode cX5_mayTrade 25 = .ok (.iconst 0, 1) := by decide +kernel
theorem dX5_mayTrade_26 : decode cX5_mayTrade 26 = .ok (.laload, 1) := by decide +kernel
theorem dX5_mayTrade_27 : decode cX5_mayTrade 27 = .ok (.ldc2_w 33, 3) := by decide +kernel
theorem dX5_mayTrade_30 : decode cX5_mayTrade 30 = .ok (.ldiv, 1) := by decide +kernel
theorem dX5_mayTrade_31 : decode cX5_mayTrade 31 = .ok (.lcmp, 1) := by decide +kernel
theorem dX5_mayTrade_32 : decode cX5_mayTrade 32 = .ok (.ifCond .le 7, 3) := by decide +kernel
theorem dX5_mayTrade_35 : decode cX5_mayTrade 35 = .ok (.iconst 1, 1) := by decide +kernel
theorem dX5_mayTrade_36 : decode cX5_mayTrade 36 = .ok (.goto 4, 3) := by decide +kernel
theorem dX5_mayTrade_39 : decode cX5_mayTrade 39 = .ok (.iconst 0, 1) := by decide +kernel
theorem dX5_mayTrade_40 : decode cX5_mayTrade 40 = .ok (.istore 4, 2) := by decide +kernel
theorem dX5_mayTrade_42 : decode cX5_mayTrade 42 = .ok (.iload 4, 2) := by decide +kernel
theorem dX5_mayTrade_44 : decode cX5_mayTrade 44 = .ok (.ifCond .eq 29, 3) := by decide +kernel
theorem dX5_mayTrade_47 : decode cX5_mayTrade 47 = .ok (.aload_n 0, 1) := by decide +kernel
theorem dX5_mayTrade_48 : decode cX5_mayTrade 48 = .ok (.getfield 7, 3) := by decide +kernel
theorem dX5_mayTrade_51 : decode cX5_mayTrade 51 = .ok (.iload_n 1, 1) := by decide +kernel
theorem dX5_mayTrade_52 : decode cX5_mayTrade 52 = .ok (.iload_n 2, 1) := by decide +kernel
theorem dX5_mayTrade_53 : decode cX5_mayTrade 53 = .ok (.i2l, 1) := by decide +kernel
theorem dX5_mayTrade_54 : decode cX5_mayTrade 54 = .ok (.invokestatic 70, 3) := by decide +kernel
theorem dX5_mayTrade_57 : decode cX5_mayTrade 57 = .ok (.ifCond .ne 7, 3) := by decide +kernel
theorem dX5_mayTrade_60 : decode cX5_mayTrade 60 = .ok (.iconst 1, 1) := by decide +kernel
theorem dX5_mayTrade_61 : decode cX5_mayTrade 61 = .ok (.goto 4, 3) := by decide +kernel
theorem dX5_mayTrade_64 : decode cX5_mayTrade 64 = .ok (.iconst 0, 1) := by decide +kernel
theorem dX5_mayTrade_65 : decode cX5_mayTrade 65 = .ok (.iload_n 3, 1) := by decide +kernel
theorem dX5_mayTrade_66 : decode cX5_mayTrade 66 = .ok (.if_icmp .ne 7, 3) := by decide +kernel
theorem dX5_mayTrade_69 : decode cX5_mayTrade 69 = .ok (.iconst 0, 1) := by decide +kernel
theorem dX5_mayTrade_70 : decode cX5_mayTrade 70 = .ok (.goto 5, 3) := by decide +kernel
theorem dX5_mayTrade_73 : decode cX5_mayTrade 73 = .ok (.bipush (-5), 2) := by decide +kernel
theorem dX5_mayTrade_75 : decode cX5_mayTrade 75 = .ok (.ireturn, 1) := by decide +kernel
theorem dX5_hoursOf_0 : decode cX5_hoursOf 0 = .ok (.iconst 0, 1) := by decide +kernel
theorem dX5_hoursOf_1 : decode cX5_hoursOf 1 = .ok (.istore_n 3, 1) := by decide +kernel
theorem dX5_hoursOf_2 : decode cX5_hoursOf 2 = .ok (.iconst 0, 1) := by decide +kernel
theorem dX5_hoursOf_3 : decode cX5_hoursOf 3 = .ok (.istore 4, 2) := by decide +kernel
theorem dX5_hoursOf_5 : decode cX5_hoursOf 5 = .ok (.iload 4, 2) := by decide +kernel
theorem dX5_hoursOf_7 : decode cX5_hoursOf 7 = .ok (.bipush 100, 2) := by decide +kernel
theorem dX5_hoursOf_9 : decode cX5_hoursOf 9 = .ok (.if_icmp .ge 49, 3) := by decide +kernel
theorem dX5_hoursOf_12 : decode cX5_hoursOf 12 = .ok (.aload_n 0, 1) := by decide +kernel
theorem dX5_hoursOf_13 : decode cX5_hoursOf 13 = .ok (.getfield 7, 3) := by decide +kernel
theorem dX5_hoursOf_16 : decode cX5_hoursOf 16 = .ok (.iload_n 1, 1) := by decide +kernel
theorem dX5_hoursOf_17 : decode cX5_hoursOf 17 = .ok (.iload 4, 2) := by decide +kernel
theorem dX5_hoursOf_19 : decode cX5_hoursOf 19 = .ok (.i2l, 1) := by decide +kernel
theorem dX5_hoursOf_20 : decode cX5_hoursOf 20 = .ok (.invokestatic 70, 3) := by decide +kernel
theorem dX5_hoursOf_23 : decode cX5_hoursOf 23 = .ok (.istore 5, 2) := by decide +kernel
theorem dX5_hoursOf_25 : decode cX5_hoursOf 25 = .ok (.iload_n 3, 1) := by decide +kernel
theorem dX5_hoursOf_26 : decode cX5_hoursOf 26 = .ok (.iload_n 2, 1) := by decide +kernel
theorem dX5_hoursOf_27 : decode cX5_hoursOf 27 = .ok (.ifCond .ne 8, 3) := by decide +kernel
theorem dX5_hoursOf_30 : decode cX5_hoursOf 30 = .ok (.iload 5, 2) := by decide +kernel
theorem dX5_hoursOf_32 : decode cX5_hoursOf 32 = .ok (.ifCond .gt 13, 3) := by decide +kernel
theorem dX5_hoursOf_35 : decode cX5_hoursOf 35 = .ok (.iload_n 2, 1) := by decide +kernel
theorem dX5_hoursOf_36 : decode cX5_hoursOf 36 = .ok (.ifCond .le 13, 3) := by decide +kernel
theorem dX5_hoursOf_39 : decode cX5_hoursOf 39 = .ok (.iload 5, 2) := by decide +kernel
theorem dX5_hoursOf_41 : decode cX5_hoursOf 41 = .ok (.iload_n 2, 1) := by decide +kernel
theorem dX5_hoursOf_42 : decode cX5_hoursOf 42 = .ok (.if_icmp .ne 7, 3) := by decide +kernel
theorem dX5_hoursOf_45 : decode cX5_hoursOf 45 = .ok (.iconst 1, 1) := by decide +kernel
theorem dX5_hoursOf_46 : decode cX5_hoursOf 46 = .ok (.goto 4, 3) := by decide +kernel
theorem dX5_hoursOf_49 : decode cX5_hoursOf 49 = .ok (.iconst 0, 1) := by decide +kernel
theorem dX5_hoursOf_50 : decode cX5_hoursOf 50 = .ok (.iadd, 1) := by decide +kernel
theorem dX5_hoursOf_51 : decode cX5_hoursOf 51 = .ok (.istore_n 3, 1) := by decide +kernel
theorem dX5_hoursOf_52 : decode cX5_hoursOf 52 = .ok (.iinc 4 1, 3) := by decide +kernel
theorem dX5_hoursOf_55 : decode cX5_hoursOf 55 = .ok (.goto (-50), 3) := by decide +kernel
theorem dX5_hoursOf_58 : decode cX5_hoursOf 58 = .ok (.iload_n 3, 1) := by decide +kernel
theorem dX5_hoursOf_59 : decode cX5_hoursOf 59 = .ok (.ireturn, 1) := by decide +kernel
theorem dX5_trades_0 : decode cX5_trades 0 = .ok (.aload_n 0, 1) := by decide +kernel
theorem dX5_trades_1 : decode cX5_trades 1 = .ok (.getfield 7, 3) := by decide +kernel
theorem dX5_trades_4 : decode cX5_trades 4 = .ok (.bipush 56, 2) := by decide +kernel
theorem dX5_trades_6 : decode cX5_trades 6 = .ok (.bipush 100, 2) := by decide +kernel
theorem dX5_trades_8 : decode cX5_trades 8 = .ok (.iload_n 1, 1) := by decide +kernel
theorem dX5_trades_9 : decode cX5_trades 9 = .ok (.imul, 1) := by decide +kernel
theorem dX5_trades_10 : decode cX5_trades 10 = .ok (.iadd, 1) := by decide +kernel
theorem dX5_trades_11 : decode cX5_trades 11 = .ok (.iload_n 2, 1) := by decide +kernel
theorem dX5_trades_12 : decode cX5_trades 12 = .ok (.iadd, 1) := by decide +kernel
theorem dX5_trades_13 : decode cX5_trades 13 = .ok (.iload_n 3, 1) := by decide +kernel
theorem dX5_trades_14 : decode cX5_trades 14 = .ok (.ifCond .eq 7, 3) := by decide +kernel
theorem dX5_trades_17 : decode cX5_trades 17 = .ok (.lconst 1, 1) := by decide +kernel
theorem dX5_trades_18 : decode cX5_trades 18 = .ok (.goto 4, 3) := by decide +kernel
theorem dX5_trades_21 : decode cX5_trades 21 = .ok (.lconst 0, 1) := by decide +kernel
theorem dX5_trades_22 : decode cX5_trades 22 = .ok (.lastore, 1) := by decide +kernel
theorem dX5_trades_23 : decode cX5_trades 23 = .ok (.aload_n 0, 1) := by decide +kernel
theorem dX5_trades_24 : decode cX5_trades 24 = .ok (.iload_n 1, 1) := by decide +kernel
theorem dX5_trades_25 : decode cX5_trades 25 = .ok (.iconst 0, 1) := by decide +kernel
theorem dX5_trades_26 : decode cX5_trades 26 = .ok (.invokevirtual 132, 3) := by decide +kernel
theorem dX5_trades_29 : decode cX5_trades 29 = .ok (.ireturn, 1) := by decide +kernel
theorem dX5_sell_0 : decode cX5_sell 0 = .ok (.aload_n 0, 1) := by decide +kernel
theorem dX5_sell_1 : decode cX5_sell 1 = .ok (.iload_n 1, 1) := by decide +kernel
theorem dX5_sell_2 : decode cX5_sell 2 = .ok (.iload_n 2, 1) := by decide +kernel
theorem dX5_sell_3 : decode cX5_sell 3 = .ok (.iconst 1, 1) := by decide +kernel
theorem dX5_sell_4 : decode cX5_sell 4 = .ok (.invokevirtual 135, 3) := by decide +kernel
theorem dX5_sell_7 : decode cX5_sell 7 = .ok (.istore_n 3, 1) := by decide +kernel
theorem dX5_sell_8 : decode cX5_sell 8 = .ok (.iload_n 3, 1) := by decide +kernel
theorem dX5_sell_9 : decode cX5_sell 9 = .ok (.ifCond .eq 5, 3) := by decide +kernel
theorem dX5_sell_12 : decode cX5_sell 12 = .ok (.iload_n 3, 1) := by decide +kernel
theorem dX5_sell_13 : decode cX5_sell 13 = .ok (.ireturn, 1) := by decide +kernel
theorem dX5_sell_14 : decode cX5_sell 14 = .ok (.aload_n 0, 1) := by decide +kernel
theorem dX5_sell_15 : decode cX5_sell 15 = .ok (.invokevirtual 65, 3) := by decide +kernel
theorem dX5_sell_18 : decode cX5_sell 18 = .ok (.aload_n 0, 1) := by decide +kernel
theorem dX5_sell_19 : decode cX5_sell 19 = .ok (.iload_n 1, 1) := by decide +kernel
theorem dX5_sell_20 : decode cX5_sell 20 = .ok (.iload_n 2, 1) := by decide +kernel
theorem dX5_sell_21 : decode cX5_sell 21 = .ok (.iconst 1, 1) := by decide +kernel
theorem dX5_sell_22 : decode cX5_sell 22 = .ok (.invokevirtual 139, 3) := by decide +kernel
theorem dX5_sell_25 : decode cX5_sell 25 = .ok (.ireturn, 1) := by decide +kernel
theorem dX5_giveBack_0 : decode cX5_giveBack 0 = .ok (.aload_n 0, 1) := by decide +kernel
theorem dX5_giveBack_1 : decode cX5_giveBack 1 = .ok (.iload_n 1, 1) := by decide +kernel
theorem dX5_giveBack_2 : decode cX5_giveBack 2 = .ok (.iload_n 2, 1) := by decide +kernel
theorem dX5_giveBack_3 : decode cX5_giveBack 3 = .ok (.iconst 0, 1) := by decide +kernel
theorem dX5_giveBack_4 : decode cX5_giveBack 4 = .ok (.invokevirtual 135, 3) := by decide +kernel
theorem dX5_giveBack_7 : decode cX5_giveBack 7 = .ok (.istore_n 3, 1) := by decide +kernel
theorem dX5_giveBack_8 : decode cX5_giveBack 8 = .ok (.iload_n 3, 1) := by decide +kernel
theorem dX5_giveBack_9 : decode cX5_giveBack 9 = .ok (.ifCond .eq 5, 3) := by decide +kernel
theorem dX5_giveBack_12 : decode cX5_giveBack 12 = .ok (.iload_n 3, 1) := by decide +kernel
theorem dX5_giveBack_13 : decode cX5_giveBack 13 = .ok (.ireturn, 1) := by decide +kernel
theorem dX5_giveBack_14 : decode cX5_giveBack 14 = .ok (.aload_n 0, 1) := by decide +kernel
theorem dX5_giveBack_15 : decode cX5_giveBack 15 = .ok (.invokevirtual 65, 3) := by decide +kernel
theorem dX5_giveBack_18 : decode cX5_giveBack 18 = .ok (.aload_n 0, 1) := by decide +kernel
theorem dX5_giveBack_19 : decode cX5_giveBack 19 = .ok (.iload_n 1, 1) := by decide +kernel
theorem dX5_giveBack_20 : decode cX5_giveBack 20 = .ok (.iload_n 2, 1) := by decide +kernel
theorem dX5_giveBack_21 : decode cX5_giveBack 21 = .ok (.iconst 0, 1) := by decide +kernel
theorem dX5_giveBack_22 : decode cX5_giveBack 22 = .ok (.invokevirtual 139, 3) := by decide +kernel
theorem dX5_giveBack_25 : decode cX5_giveBack 25 = .ok (.ireturn, 1) := by decide +kernel
theorem dX5_areMinutes_0 : decode cX5_areMinutes 0 = .ok (.iload_n 0, 1) := by decide +kernel
theorem dX5_areMinutes_1 : decode cX5_areMinutes 1 = .ok (.i2l, 1) := by decide +kernel
theorem dX5_areMinutes_2 : decode cX5_areMinutes 2 = .ok (.lconst 1, 1) := by decide +kernel
theorem dX5_areMinutes_3 : decode cX5_areMinutes 3 = .ok (.ldc2_w 142, 3) := by decide +kernel
theorem dX5_areMinutes_6 : decode cX5_areMinutes 6 = .ok (.invokestatic 51, 3) := by decide +kernel
theorem dX5_areMinutes_9 : decode cX5_areMinutes 9 = .ok (.ireturn, 1) := by decide +kernel
theorem dX5_passes_0 : decode cX5_passes 0 = .ok (.iconst 0, 1) := by decide +kernel
theorem dX5_passes_1 : decode cX5_passes 1 = .ok (.istore_n 2, 1) := by decide +kernel
theorem dX5_passes_2 : decode cX5_passes 2 = .ok (.iload_n 2, 1) := by decide +kernel
theorem dX5_passes_3 : decode cX5_passes 3 = .ok (.iload_n 1, 1) := by decide +kernel
theorem dX5_passes_4 : decode cX5_passes 4 = .ok (.if_icmp .ge 16, 3) := by decide +kernel
theorem dX5_passes_7 : decode cX5_passes 7 = .ok (.aload_n 0, 1) := by decide +kernel
theorem dX5_passes_8 : decode cX5_passes 8 = .ok (.getfield 7, 3) := by decide +kernel
theorem dX5_passes_11 : decode cX5_passes 11 = .ok (.invokestatic 144, 3) := by decide +kernel
theorem dX5_passes_14 : decode cX5_passes 14 = .ok (.iinc 2 1, 3) := by decide +kernel
theorem dX5_passes_17 : decode cX5_passes 17 = .ok (.goto (-15), 3) := by decide +kernel
theorem dX5_passes_20 : decode cX5_passes 20 = .ok (.return_, 1) := by decide +kernel
theorem dX5_pass_0 : decode cX5_pass 0 = .ok (.iload_n 1, 1) := by decide +kernel
theorem dX5_pass_1 : decode cX5_pass 1 = .ok (.invokestatic 148, 3) := by decide +kernel
theorem dX5_pass_4 : decode cX5_pass 4 = .ok (.ifCond .ne 6, 3) := by decide +kernel
theorem dX5_pass_7 : decode cX5_pass 7 = .ok (.bipush (-2), 2) := by decide +kernel
theorem dX5_pass_9 : decode cX5_pass 9 = .ok (.ireturn, 1) := by decide +kernel
theorem dX5_pass_10 : decode cX5_pass 10 = .ok (.aload_n 0, 1) := by decide +kernel
theorem dX5_pass_11 : decode cX5_pass 11 = .ok (.invokevirtual 65, 3) := by decide +kernel
theorem dX5_pass_14 : decode cX5_pass 14 = .ok (.aload_n 0, 1) := by decide +kernel
theorem dX5_pass_15 : decode cX5_pass 15 = .ok (.iload_n 1, 1) := by decide +kernel
theorem dX5_pass_16 : decode cX5_pass 16 = .ok (.invokevirtual 151, 3) := by decide +kernel
theorem dX5_pass_19 : decode cX5_pass 19 = .ok (.aload_n 0, 1) := by decide +kernel
theorem dX5_pass_20 : decode cX5_pass 20 = .ok (.getfield 7, 3) := by decide +kernel
theorem dX5_pass_23 : decode cX5_pass 23 = .ok (.iconst 0, 1) := by decide +kernel
theorem dX5_pass_24 : decode cX5_pass 24 = .ok (.laload, 1) := by decide +kernel
theorem dX5_pass_25 : decode cX5_pass 25 = .ok (.l2i, 1) := by decide +kernel
theorem dX5_pass_26 : decode cX5_pass 26 = .ok (.ireturn, 1) := by decide +kernel
theorem dX5_ofDrive_0 : decode cX5_ofDrive 0 = .ok (.iload_n 1, 1) := by decide +kernel
theorem dX5_ofDrive_1 : decode cX5_ofDrive 1 = .ok (.invokestatic 107, 3) := by decide +kernel
theorem dX5_ofDrive_4 : decode cX5_ofDrive 4 = .ok (.ifCond .ne 5, 3) := by decide +kernel
theorem dX5_ofDrive_7 : decode cX5_ofDrive 7 = .ok (.iconst (-1), 1) := by decide +kernel
theorem dX5_ofDrive_8 : decode cX5_ofDrive 8 = .ok (.ireturn, 1) := by decide +kernel
theorem dX5_ofDrive_9 : decode cX5_ofDrive 9 = .ok (.iload_n 2, 1) := by decide +kernel
theorem dX5_ofDrive_10 : decode cX5_ofDrive 10 = .ok (.i2l, 1) := by decide +kernel
theorem dX5_ofDrive_11 : decode cX5_ofDrive 11 = .ok (.lconst 0, 1) := by decide +kernel
theorem dX5_ofDrive_12 : decode cX5_ofDrive 12 = .ok (.ldc2_w 155, 3) := by decide +kernel
theorem dX5_ofDrive_15 : decode cX5_ofDrive 15 = .ok (.invokestatic 51, 3) := by decide +kernel
theorem dX5_ofDrive_18 : decode cX5_ofDrive 18 = .ok (.ifCond .ne 6, 3) := by decide +kernel
theorem dX5_ofDrive_21 : decode cX5_ofDrive 21 = .ok (.bipush (-2), 2) := by decide +kernel
theorem dX5_ofDrive_23 : decode cX5_ofDrive 23 = .ok (.ireturn, 1) := by decide +kernel
theorem dX5_ofDrive_24 : decode cX5_ofDrive 24 = .ok (.iload_n 1, 1) := by decide +kernel
theorem dX5_ofDrive_25 : decode cX5_ofDrive 25 = .ok (.invokestatic 45, 3) := by decide +kernel
theorem dX5_ofDrive_28 : decode cX5_ofDrive 28 = .ok (.istore_n 3, 1) := by decide +kernel
theorem dX5_ofDrive_29 : decode cX5_ofDrive 29 = .ok (.iload_n 2, 1) := by decide +kernel
theorem dX5_ofDrive_30 : decode cX5_ofDrive 30 = .ok (.iconst 4, 1) := by decide +kernel
theorem dX5_ofDrive_31 : decode cX5_ofDrive 31 = .ok (.if_icmp .ge 13, 3) := by decide +kernel
theorem dX5_ofDrive_34 : decode cX5_ofDrive 34 = .ok (.aload_n 0, 1) := by decide +kernel
theorem dX5_ofDrive_35 : decode cX5_ofDrive 35 = .ok (.getfield 7, 3) := by decide +kernel
theorem dX5_ofDrive_38 : decode cX5_ofDrive 38 = .ok (.iload_n 3, 1) := by decide +kernel
theorem dX5_ofDrive_39 : decode cX5_ofDrive 39 = .ok (.iload_n 2, 1) := by decide +kernel
theorem dX5_ofDrive_40 : decode cX5_ofDrive 40 = .ok (.iadd, 1) := by decide +kernel
theorem dX5_ofDrive_41 : decode cX5_ofDrive 41 = .ok (.laload, 1) := by decide +kernel
theorem dX5_ofDrive_42 : decode cX5_ofDrive 42 = .ok (.l2i, 1) := by decide +kernel
theorem dX5_ofDrive_43 : decode cX5_ofDrive 43 = .ok (.ireturn, 1) := by decide +kernel
theorem dX5_ofDrive_44 : decode cX5_ofDrive 44 = .ok (.iload_n 2, 1) := by decide +kernel
theorem dX5_ofDrive_45 : decode cX5_ofDrive 45 = .ok (.bipush 9, 2) := by decide +kernel
theorem dX5_ofDrive_47 : decode cX5_ofDrive 47 = .ok (.if_icmp .ge 39, 3) := by decide +kernel
theorem dX5_ofDrive_50 : decode cX5_ofDrive 50 = .ok (.iload_n 2, 1) := by decide +kernel
theorem dX5_ofDrive_51 : decode cX5_ofDrive 51 = .ok (.iconst 4, 1) := by decide +kernel
theorem dX5_ofDrive_52 : decode cX5_ofDrive 52 = .ok (.if_icmp .ne 22, 3) := by decide +kernel
theorem dX5_ofDrive_55 : decode cX5_ofDrive 55 = .ok (.aload_n 0, 1) := by decide +kernel
theorem dX5_ofDrive_56 : decode cX5_ofDrive 56 = .ok (.getfield 7, 3) := by decide +kernel
theorem dX5_ofDrive_59 : decode cX5_ofDrive 59 = .ok (.iload_n 1, 1) := by decide +kernel
theorem dX5_ofDrive_60 : decode cX5_ofDrive 60 = .ok (.invokestatic 82, 3) := by decide +kernel
theorem dX5_ofDrive_63 : decode cX5_ofDrive 63 = .ok (.ifCond .eq 7, 3) := by decide +kernel
theorem dX5_ofDrive_66 : decode cX5_ofDrive 66 = .ok (.iconst 1, 1) := by decide +kernel
theorem dX5_ofDrive_67 : decode cX5_ofDrive 67 = .ok (.goto 18, 3) := by decide +kernel
theorem dX5_ofDrive_70 : decode cX5_ofDrive 70 = .ok (.iconst 0, 1) := by decide +kernel
theorem dX5_ofDrive_71 : decode cX5_ofDrive 71 = .ok (.goto 14, 3) := by decide +kernel
theorem dX5_ofDrive_74 : decode cX5_ofDrive 74 = .ok (.aload_n 0, 1) := by decide +kernel
theorem dX5_ofDrive_75 : decode cX5_ofDrive 75 = .ok (.getfield 7, 3) := by decide +kernel
theorem dX5_ofDrive_78 : decode cX5_ofDrive 78 = .ok (.iload_n 3, 1) := by decide +kernel
theorem dX5_ofDrive_79 : decode cX5_ofDrive 79 = .ok (.iload_n 2, 1) := by decide +kernel
theorem dX5_ofDrive_80 : decode cX5_ofDrive 80 = .ok (.iadd, 1) := by decide +kernel
theorem dX5_ofDrive_81 : decode cX5_ofDrive 81 = .ok (.iconst 1, 1) := by decide +kernel
theorem dX5_ofDrive_82 : decode cX5_ofDrive 82 = .ok (.isub, 1) := by decide +kernel
theorem dX5_ofDrive_83 : decode cX5_ofDrive 83 = .ok (.laload, 1) := by decide +kernel
theorem dX5_ofDrive_84 : decode cX5_ofDrive 84 = .ok (.l2i, 1) := by decide +kernel
theorem dX5_ofDrive_85 : decode cX5_ofDrive 85 = .ok (.ireturn, 1) := by decide +kernel
theorem dX5_ofDrive_86 : decode cX5_ofDrive 86 = .ok (.iload_n 2, 1) := by decide +kernel
theorem dX5_ofDrive_87 : decode cX5_ofDrive 87 = .ok (.bipush 12, 2) := by decide +kernel
theorem dX5_ofDrive_89 : decode cX5_ofDrive 89 = .ok (.if_icmp .ge 25, 3) := by decide +kernel
theorem dX5_ofDrive_92 : decode cX5_ofDrive 92 = .ok (.aload_n 0, 1) := by decide +kernel
theorem dX5_ofDrive_93 : decode cX5_ofDrive 93 = .ok (.iload_n 1, 1) := by decide +kernel
theorem dX5_ofDrive_94 : decode cX5_ofDrive 94 = .ok (.iload_n 2, 1) := by decide +kernel
theorem dX5_ofDrive_95 : decode cX5_ofDrive 95 = .ok (.bipush 9, 2) := by decide +kernel
theorem dX5_ofDrive_97 : decode cX5_ofDrive 97 = .ok (.if_icmp .ne 7, 3) := by decide +kernel
theorem dX5_ofDrive_100 : decode cX5_ofDrive 100 = .ok (.iconst 0, 1) := by decide +kernel
theorem dX5_ofDrive_101 : decode cX5_ofDrive 101 = .ok (.goto 7, 3) := by decide +kernel
theorem dX5_ofDrive_104 : decode cX5_ofDrive 104 = .ok (.iload_n 2, 1) := by decide +kernel
theorem dX5_ofDrive_105 : decode cX5_ofDrive 105 = .ok (.bipush 8, 2) := by decide +kernel
theorem dX5_ofDrive_107 : decode cX5_ofDrive 107 = .ok (.isub, 1) := by decide +kernel
theorem dX5_ofDrive_108 : decode cX5_ofDrive 108 = .ok (.invokevirtual 132, 3) := by decide +kernel
theorem dX5_ofDrive_111 : decode cX5_ofDrive 111 = .ok (.goto 18, 3) := by decide +kernel
theorem dX5_ofDrive_114 : decode cX5_ofDrive 114 = .ok (.aload_n 0, 1) := by decide +kernel
theorem dX5_ofDrive_115 : decode cX5_ofDrive 115 = .ok (.getfield 7, 3) := by decide +kernel
theorem dX5_ofDrive_118 : decode cX5_ofDrive 118 = .ok (.iload_n 3, 1) := by decide +kernel
theorem dX5_ofDrive_119 : decode cX5_ofDrive 119 = .ok (.bipush 8, 2) := by decide +kernel
theorem dX5_ofDrive_121 : decode cX5_ofDrive 121 = .ok (.iadd, 1) := by decide +kernel
theorem dX5_ofDrive_122 : decode cX5_ofDrive 122 = .ok (.iload_n 2, 1) := by decide +kernel
theorem dX5_ofDrive_123 : decode cX5_ofDrive 123 = .ok (.iadd, 1) := by decide +kernel
theorem dX5_ofDrive_124 : decode cX5_ofDrive 124 = .ok (.bipush 12, 2) := by decide +kernel
theorem dX5_ofDrive_126 : decode cX5_ofDrive 126 = .ok (.isub, 1) := by decide +kernel
theorem dX5_ofDrive_127 : decode cX5_ofDrive 127 = .ok (.laload, 1) := by decide +kernel
theorem dX5_ofDrive_128 : decode cX5_ofDrive 128 = .ok (.l2i, 1) := by decide +kernel
theorem dX5_ofDrive_129 : decode cX5_ofDrive 129 = .ok (.ireturn, 1) := by decide +kernel
theorem dX5_hour_0 : decode cX5_hour 0 = .ok (.iload_n 1, 1) := by decide +kernel
theorem dX5_hour_1 : decode cX5_hour 1 = .ok (.invokestatic 107, 3) := by decide +kernel
theorem dX5_hour_4 : decode cX5_hour 4 = .ok (.ifCond .ne 5, 3) := by decide +kernel
theorem dX5_hour_7 : decode cX5_hour 7 = .ok (.iconst (-1), 1) := by decide +kernel
theorem dX5_hour_8 : decode cX5_hour 8 = .ok (.ireturn, 1) := by decide +kernel
theorem dX5_hour_9 : decode cX5_hour 9 = .ok (.iload_n 2, 1) := by decide +kernel
theorem dX5_hour_10 : decode cX5_hour 10 = .ok (.invokestatic 129, 3) := by decide +kernel
theorem dX5_hour_13 : decode cX5_hour 13 = .ok (.ifCond .eq 16, 3) := by decide +kernel
theorem dX5_hour_16 : decode cX5_hour 16 = .ok (.aload_n 0, 1) := by decide +kernel
theorem dX5_hour_17 : decode cX5_hour 17 = .ok (.getfield 7, 3) := by decide +kernel
theorem dX5_hour_20 : decode cX5_hour 20 = .ok (.iload_n 1, 1) := by decide +kernel
theorem dX5_hour_21 : decode cX5_hour 21 = .ok (.iload_n 2, 1) := by decide +kernel
theorem dX5_hour_22 : decode cX5_hour 22 = .ok (.i2l, 1) := by decide +kernel
theorem dX5_hour_23 : decode cX5_hour 23 = .ok (.invokestatic 70, 3) := by decide +kernel
theorem dX5_hour_26 : decode cX5_hour 26 = .ok (.goto 5, 3) := by decide +kernel
theorem dX5_hour_29 : decode cX5_hour 29 = .ok (.bipush (-2), 2) := by decide +kernel
theorem dX5_hour_31 : decode cX5_hour 31 = .ok (.ireturn, 1) := by decide +kernel
theorem dX5_streak_0 : decode cX5_streak 0 = .ok (.iload_n 1, 1) := by decide +kernel
theorem dX5_streak_1 : decode cX5_streak 1 = .ok (.invokestatic 107, 3) := by decide +kernel
theorem dX5_streak_4 : decode cX5_streak 4 = .ok (.ifCond .ne 5, 3) := by decide +kernel
theorem dX5_streak_7 : decode cX5_streak 7 = .ok (.iconst (-1), 1) := by decide +kernel
theorem dX5_streak_8 : decode cX5_streak 8 = .ok (.ireturn, 1) := by decide +kernel
theorem dX5_streak_9 : decode cX5_streak 9 = .ok (.iconst 0, 1) := by decide +kernel
theorem dX5_streak_10 : decode cX5_streak 10 = .ok (.istore_n 2, 1) := by decide +kernel
theorem dX5_streak_11 : decode cX5_streak 11 = .ok (.iconst 0, 1) := by decide +kernel
theorem dX5_streak_12 : decode cX5_streak 12 = .ok (.istore_n 3, 1) := by decide +kernel
theorem dX5_streak_13 : decode cX5_streak 13 = .ok (.iload_n 3, 1) := by decide +kernel
theorem dX5_streak_14 : decode cX5_streak 14 = .ok (.bipush 100, 2) := by decide +kernel
theorem dX5_streak_16 : decode cX5_streak 16 = .ok (.if_icmp .ge 45, 3) := by decide +kernel
theorem dX5_streak_19 : decode cX5_streak 19 = .ok (.aload_n 0, 1) := by decide +kernel
theorem dX5_streak_20 : decode cX5_streak 20 = .ok (.getfield 7, 3) := by decide +kernel
theorem dX5_streak_23 : decode cX5_streak 23 = .ok (.iload_n 1, 1) := by decide +kernel
theorem dX5_streak_24 : decode cX5_streak 24 = .ok (.iload_n 3, 1) := by decide +kernel
theorem dX5_streak_25 : decode cX5_streak 25 = .ok (.i2l, 1) := by decide +kernel
theorem dX5_streak_26 : decode cX5_streak 26 = .ok (.invokestatic 70, 3) := by decide +kernel
theorem dX5_streak_29 : decode cX5_streak 29 = .ok (.istore 4, 2) := by decide +kernel
theorem dX5_streak_31 : decode cX5_streak 31 = .ok (.iload 4, 2) := by decide +kernel
theorem dX5_streak_33 : decode cX5_streak 33 = .ok (.iconst 3, 1) := by decide +kernel
theorem dX5_streak_34 : decode cX5_streak 34 = .ok (.if_icmp .ne 7, 3) := by decide +kernel
theorem dX5_streak_37 : decode cX5_streak 37 = .ok (.iconst 0, 1) := by decide +kernel
theorem dX5_streak_38 : decode cX5_streak 38 = .ok (.goto 16, 3) := by decide +kernel
theorem dX5_streak_41 : decode cX5_streak 41 = .ok (.iload 4, 2) := by decide +kernel
theorem dX5_streak_43 : decode cX5_streak 43 = .ok (.iconst 2, 1) := by decide +kernel
theorem dX5_streak_44 : decode cX5_streak 44 = .ok (.if_icmp .ne 9, 3) := by decide +kernel
theorem dX5_streak_47 : decode cX5_streak 47 = .ok (.iload_n 2, 1) := by decide +kernel
theorem dX5_streak_48 : decode cX5_streak 48 = .ok (.iconst 1, 1) := by decide +kernel
theorem dX5_streak_49 : decode cX5_streak 49 = .ok (.iadd, 1) := by decide +kernel
theorem dX5_streak_50 : decode cX5_streak 50 = .ok (.goto 4, 3) := by decide +kernel
theorem dX5_streak_53 : decode cX5_streak 53 = .ok (.iload_n 2, 1) := by decide +kernel
theorem dX5_streak_54 : decode cX5_streak 54 = .ok (.istore_n 2, 1) := by decide +kernel
theorem dX5_streak_55 : decode cX5_streak 55 = .ok (.iinc 3 1, 3) := by decide +kernel
theorem dX5_streak_58 : decode cX5_streak 58 = .ok (.goto (-45), 3) := by decide +kernel
theorem dX5_streak_61 : decode cX5_streak 61 = .ok (.iload_n 2, 1) := by decide +kernel
theorem dX5_streak_62 : decode cX5_streak 62 = .ok (.ireturn, 1) := by decide +kernel
theorem dX5_share_0 : decode cX5_share 0 = .ok (.iload_n 1, 1) := by decide +kernel
theorem dX5_share_1 : decode cX5_share 1 = .ok (.invokestatic 107, 3) := by decide +kernel
theorem dX5_share_4 : decode cX5_share 4 = .ok (.ifCond .ne 5, 3) := by decide +kernel
theorem dX5_share_7 : decode cX5_share 7 = .ok (.iconst (-1), 1) := by decide +kernel
theorem dX5_share_8 : decode cX5_share 8 = .ok (.ireturn, 1) := by decide +kernel
theorem dX5_share_9 : decode cX5_share 9 = .ok (.aload_n 0, 1) := by decide +kernel
theorem dX5_share_10 : decode cX5_share 10 = .ok (.iload_n 1, 1) := by decide +kernel
theorem dX5_share_11 : decode cX5_share 11 = .ok (.iconst 2, 1) := by decide +kernel
theorem dX5_share_12 : decode cX5_share 12 = .ok (.invokevirtual 132, 3) := by decide +kernel
theorem dX5_share_15 : decode cX5_share 15 = .ok (.istore_n 2, 1) := by decide +kernel
theorem dX5_share_16 : decode cX5_share 16 = .ok (.iload_n 2, 1) := by decide +kernel
theorem dX5_share_17 : decode cX5_share 17 = .ok (.aload_n 0, 1) := by decide +kernel
theorem dX5_share_18 : decode cX5_share 18 = .ok (.iload_n 1, 1) := by decide +kernel
theorem dX5_share_19 : decode cX5_share 19 = .ok (.iconst 3, 1) := by decide +kernel
theorem dX5_share_20 : decode cX5_share 20 = .ok (.invokevirtual 132, 3) := by decide +kernel
theorem dX5_share_23 : decode cX5_share 23 = .ok (.iadd, 1) := by decide +kernel
theorem dX5_share_24 : decode cX5_share 24 = .ok (.istore_n 3, 1) := by decide +kernel
theorem dX5_share_25 : decode cX5_share 25 = .ok (.iload_n 3, 1) := by decide +kernel
theorem dX5_share_26 : decode cX5_share 26 = .ok (.ifCond .ne 8, 3) := by decide +kernel
theorem dX5_share_29 : decode cX5_share 29 = .ok (.bipush (-6), 2) := by decide +kernel
theorem dX5_share_31 : decode cX5_share 31 = .ok (.goto 12, 3) := by decide +kernel
theorem dX5_share_34 : decode cX5_share 34 = .ok (.iload_n 2, 1) := by decide +kernel
theorem dX5_share_35 : decode cX5_share 35 = .ok (.i2d, 1) := by decide +kernel
theorem dX5_share_36 : decode cX5_share 36 = .ok (.iload_n 3, 1) := by decide +kernel
theorem dX5_share_37 : decode cX5_share 37 = .ok (.i2d, 1) := by decide +kernel
theorem dX5_share_38 : decode cX5_share 38 = .ok (.ddiv, 1) := by decide +kernel
theorem dX5_share_39 : decode cX5_share 39 = .ok (.d2f, 1) := by decide +kernel
theorem dX5_share_40 : decode cX5_share 40 = .ok (.invokestatic 157, 3) := by decide +kernel
theorem dX5_share_43 : decode cX5_share 43 = .ok (.ireturn, 1) := by decide +kernel
theorem dX5_mean_0 : decode cX5_mean 0 = .ok (.iload_n 1, 1) := by decide +kernel
theorem dX5_mean_1 : decode cX5_mean 1 = .ok (.invokestatic 107, 3) := by decide +kernel
theorem dX5_mean_4 : decode cX5_mean 4 = .ok (.ifCond .ne 7, 3) := by decide +kernel
theorem dX5_mean_7 : decode cX5_mean 7 = .ok (.ldc2_w 163, 3) := by decide +kernel
theorem dX5_mean_10 : decode cX5_mean 10 = .ok (.lreturn, 1) := by decide +kernel
theorem dX5_mean_11 : decode cX5_mean 11 = .ok (.aload_n 0, 1) := by decide +kernel
theorem dX5_mean_12 : decode cX5_mean 12 = .ok (.getfield 7, 3) := by decide +kernel
theorem dX5_mean_15 : decode cX5_mean 15 = .ok (.iconst 0, 1) := by decide +kernel
theorem dX5_mean_16 : decode cX5_mean 16 = .ok (.laload, 1) := by decide +kernel
theorem dX5_mean_17 : decode cX5_mean 17 = .ok (.lconst 0, 1) := by decide +kernel
theorem dX5_mean_18 : decode cX5_mean 18 = .ok (.lcmp, 1) := by decide +kernel
theorem dX5_mean_19 : decode cX5_mean 19 = .ok (.ifCond .ne 7, 3) := by decide +kernel
theorem dX5_mean_22 : decode cX5_mean 22 = .ok (.lconst 0, 1) := by decide +kernel
theorem dX5_mean_23 : decode cX5_mean 23 = .ok (.goto 27, 3) := by decide +kernel
theorem dX5_mean_26 : decode cX5_mean 26 = .ok (.aload_n 0, 1) := by decide +kernel
theorem dX5_mean_27 : decode cX5_mean 27 = .ok (.getfield 7, 3) := by decide +kernel
theorem dX5_mean_30 : decode cX5_mean 30 = .ok (.iload_n 1, 1) := by decide +kernel
theorem dX5_mean_31 : decode cX5_mean 31 = .ok (.invokestatic 45, 3) := by decide +kernel
theorem dX5_mean_34 : decode cX5_mean 34 = .ok (.bipush 10, 2) := by decide +kernel
theorem dX5_mean_36 : decode cX5_mean 36 = .ok (.iadd, 1) := by decide +kernel
theorem dX5_mean_37 : decode cX5_mean 37 = .ok (.laload, 1) := by decide +kernel
theorem dX5_mean_38 : decode cX5_mean 38 = .ok (.l2d, 1) := by decide +kernel
theorem dX5_mean_39 : decode cX5_mean 39 = .ok (.aload_n 0, 1) := by decide +kernel
theorem dX5_mean_40 : decode cX5_mean 40 = .ok (.getfield 7, 3) := by decide +kernel
theorem dX5_mean_43 : decode cX5_mean 43 = .ok (.iconst 0, 1) := by decide +kernel
theorem dX5_mean_44 : decode cX5_mean 44 = .ok (.laload, 1) := by decide +kernel
theorem dX5_mean_45 : decode cX5_mean 45 = .ok (.l2d, 1) := by decide +kernel
theorem dX5_mean_46 : decode cX5_mean 46 = .ok (.ddiv, 1) := by decide +kernel
theorem dX5_mean_47 : decode cX5_mean 47 = .ok (.invokestatic 165, 3) := by decide +kernel
theorem dX5_mean_50 : decode cX5_mean 50 = .ok (.lreturn, 1) := by decide +kernel
theorem dX5_count_0 : decode cX5_count 0 = .ok (.iload_n 1, 1) := by decide +kernel
theorem dX5_count_1 : decode cX5_count 1 = .ok (.i2l, 1) := by decide +kernel
theorem dX5_count_2 : decode cX5_count 2 = .ok (.lconst 0, 1) := by decide +kernel
theorem dX5_count_3 : decode cX5_count 3 = .ok (.ldc2_w 171, 3) := by decide +kernel
theorem dX5_count_6 : decode cX5_count 6 = .ok (.invokestatic 51, 3) := by decide +kernel
theorem dX5_count_9 : decode cX5_count 9 = .ok (.ifCond .ne 6, 3) := by decide +kernel
theorem dX5_count_12 : decode cX5_count 12 = .ok (.bipush (-2), 2) := by decide +kernel
theorem dX5_count_14 : decode cX5_count 14 = .ok (.ireturn, 1) := by decide +kernel
theorem dX5_count_15 : decode cX5_count 15 = .ok (.iload_n 1, 1) := by decide +kernel
theorem dX5_count_16 : decode cX5_count 16 = .ok (.iconst 2, 1) := by decide +kernel
theorem dX5_count_17 : decode cX5_count 17 = .ok (.if_icmp .ge 28, 3) := by decide +kernel
theorem dX5_count_20 : decode cX5_count 20 = .ok (.iload_n 1, 1) := by decide +kernel
theorem dX5_count_21 : decode cX5_count 21 = .ok (.ifCond .ne 12, 3) := by decide +kernel
theorem dX5_count_24 : decode cX5_count 24 = .ok (.aload_n 0, 1) := by decide +kernel
theorem dX5_count_25 : decode cX5_count 25 = .ok (.getfield 7, 3) := by decide +kernel
theorem dX5_count_28 : decode cX5_count 28 = .ok (.iconst 0, 1) := by decide +kernel
theorem dX5_count_29 : decode cX5_count 29 = .ok (.laload, 1) := by decide +kernel
theorem dX5_count_30 : decode cX5_count 30 = .ok (.goto 13, 3) := by decide +kernel
theorem dX5_count_33 : decode cX5_count 33 = .ok (.aload_n 0, 1) := by decide +kernel
theorem dX5_count_34 : decode cX5_count 34 = .ok (.getfield 7, 3) := by decide +kernel
theorem dX5_count_37 : decode cX5_count 37 = .ok (.iconst 0, 1) := by decide +kernel
theorem dX5_count_38 : decode cX5_count 38 = .ok (.laload, 1) := by decide +kernel
theorem dX5_count_39 : decode cX5_count 39 = .ok (.ldc2_w 33, 3) := by decide +kernel
theorem dX5_count_42 : decode cX5_count 42 = .ok (.ldiv, 1) := by decide +kernel
theorem dX5_count_43 : decode cX5_count 43 = .ok (.l2i, 1) := by decide +kernel
theorem dX5_count_44 : decode cX5_count 44 = .ok (.ireturn, 1) := by decide +kernel
theorem dX5_count_45 : decode cX5_count 45 = .ok (.iload_n 1, 1) := by decide +kernel
theorem dX5_count_46 : decode cX5_count 46 = .ok (.bipush 6, 2) := by decide +kernel
theorem dX5_count_48 : decode cX5_count 48 = .ok (.if_icmp .ge 17, 3) := by decide +kernel
theorem dX5_count_51 : decode cX5_count 51 = .ok (.aload_n 0, 1) := by decide +kernel
theorem dX5_count_52 : decode cX5_count 52 = .ok (.getfield 7, 3) := by decide +kernel
theorem dX5_count_55 : decode cX5_count 55 = .ok (.iconst 1, 1) := by decide +kernel
theorem dX5_count_56 : decode cX5_count 56 = .ok (.iload_n 1, 1) := by decide +kernel
theorem dX5_count_57 : decode cX5_count 57 = .ok (.iadd, 1) := by decide +kernel
theorem dX5_count_58 : decode cX5_count 58 = .ok (.iconst 2, 1) := by decide +kernel
theorem dX5_count_59 : decode cX5_count 59 = .ok (.isub, 1) := by decide +kernel
theorem dX5_count_60 : decode cX5_count 60 = .ok (.laload, 1) := by decide +kernel
theorem dX5_count_61 : decode cX5_count 61 = .ok (.l2i, 1) := by decide +kernel
theorem dX5_count_62 : decode cX5_count 62 = .ok (.goto 41, 3) := by decide +kernel
theorem dX5_count_65 : decode cX5_count 65 = .ok (.iload_n 1, 1) := by decide +kernel
theorem dX5_count_66 : decode cX5_count 66 = .ok (.bipush 13, 2) := by decide +kernel
theorem dX5_count_68 : decode cX5_count 68 = .ok (.if_icmp .ge 18, 3) := by decide +kernel
theorem dX5_count_71 : decode cX5_count 71 = .ok (.aload_n 0, 1) := by decide +kernel
theorem dX5_count_72 : decode cX5_count 72 = .ok (.getfield 7, 3) := by decide +kernel
theorem dX5_count_75 : decode cX5_count 75 = .ok (.iconst 5, 1) := by decide +kernel
theorem dX5_count_76 : decode cX5_count 76 = .ok (.iload_n 1, 1) := by decide +kernel
theorem dX5_count_77 : decode cX5_count 77 = .ok (.iadd, 1) := by decide +kernel
theorem dX5_count_78 : decode cX5_count 78 = .ok (.bipush 6, 2) := by decide +kernel
theorem dX5_count_80 : decode cX5_count 80 = .ok (.isub, 1) := by decide +kernel
theorem dX5_count_81 : decode cX5_count 81 = .ok (.laload, 1) := by decide +kernel
theorem dX5_count_82 : decode cX5_count 82 = .ok (.l2i, 1) := by decide +kernel
theorem dX5_count_83 : decode cX5_count 83 = .ok (.goto 20, 3) := by decide +kernel
theorem dX5_count_86 : decode cX5_count 86 = .ok (.iload_n 1, 1) := by decide +kernel
theorem dX5_count_87 : decode cX5_count 87 = .ok (.bipush 13, 2) := by decide +kernel
theorem dX5_count_89 : decode cX5_count 89 = .ok (.if_icmp .ne 10, 3) := by decide +kernel
theorem dX5_count_92 : decode cX5_count 92 = .ok (.aload_n 0, 1) := by decide +kernel
theorem dX5_count_93 : decode cX5_count 93 = .ok (.getfield 173, 3) := by decide +kernel
theorem dX5_count_96 : decode cX5_count 96 = .ok (.goto 7, 3) := by decide +kernel
theorem dX5_count_99 : decode cX5_count 99 = .ok (.aload_n 0, 1) := by decide +kernel
theorem dX5_count_100 : decode cX5_count 100 = .ok (.getfield 57, 3) := by decide +kernel
theorem dX5_count_103 : decode cX5_count 103 = .ok (.ireturn, 1) := by decide +kernel
theorem dX5_tries_0 : decode cX5_tries 0 = .ok (.aload_n 0, 1) := by decide +kernel
theorem dX5_tries_1 : decode cX5_tries 1 = .ok (.getfield 7, 3) := by decide +kernel
theorem dX5_tries_4 : decode cX5_tries 4 = .ok (.iconst 0, 1) := by decide +kernel
theorem dX5_tries_5 : decode cX5_tries 5 = .ok (.aload_n 0, 1) := by decide +kernel
theorem dX5_tries_6 : decode cX5_tries 6 = .ok (.getfield 13, 3) := by decide +kernel
theorem dX5_tries_9 : decode cX5_tries 9 = .ok (.iconst 0, 1) := by decide +kernel
theorem dX5_tries_10 : decode cX5_tries 10 = .ok (.invokestatic 61, 3) := by decide +kernel
theorem dX5_tries_13 : decode cX5_tries 13 = .ok (.return_, 1) := by decide +kernel
theorem dX5_mayAsk_0 : decode cX5_mayAsk 0 = .ok (.iload_n 0, 1) := by decide +kernel
theorem dX5_mayAsk_1 : decode cX5_mayAsk 1 = .ok (.invokestatic 107, 3) := by decide +kernel
theorem dX5_mayAsk_4 : decode cX5_mayAsk 4 = .ok (.ifCond .ne 7, 3) := by decide +kernel
theorem dX5_mayAsk_7 : decode cX5_mayAsk 7 = .ok (.iconst (-1), 1) := by decide +kernel
theorem dX5_mayAsk_8 : decode cX5_mayAsk 8 = .ok (.goto 16, 3) := by decide +kernel
