theorem dX5_mayAsk_11 : decode cX5_mayAsk 11 = .ok (.iload_n 1, 1) := by decide +kernel
theorem dX5_mayAsk_12 : decode cX5_mayAsk 12 = .ok (.invokestatic 148, 3) := by decide +kernel
theorem dX5_mayAsk_15 : decode cX5_mayAsk 15 = .ok (.ifCond .eq 7, 3) := by decide +kernel
theorem dX5_mayAsk_18 : decode cX5_mayAsk 18 = .ok (.iconst 0, 1) := by decide +kernel
theorem dX5_mayAsk_19 : decode cX5_mayAsk 19 = .ok (.goto 5, 3) := by decide +kernel
theorem dX5_mayAsk_22 : decode cX5_mayAsk 22 = .ok (.bipush (-2), 2) := by decide +kernel
theorem dX5_mayAsk_24 : decode cX5_mayAsk 24 = .ok (.ireturn, 1) := by decide +kernel
theorem dX5_passesThen_0 : decode cX5_passesThen 0 = .ok (.lconst 0, 1) := by decide +kernel
theorem dX5_passesThen_1 : decode cX5_passesThen 1 = .ok (.lstore_n 3, 1) := by decide +kernel
theorem dX5_passesThen_2 : decode cX5_passesThen 2 = .ok (.iconst 0, 1) := by decide +kernel
theorem dX5_passesThen_3 : decode cX5_passesThen 3 = .ok (.istore 5, 2) := by decide +kernel
theorem dX5_passesThen_5 : decode cX5_passesThen 5 = .ok (.iload 5, 2) := by decide +kernel
theorem dX5_passesThen_7 : decode cX5_passesThen 7 = .ok (.iload_n 1, 1) := by decide +kernel
theorem dX5_passesThen_8 : decode cX5_passesThen 8 = .ok (.if_icmp .ge 48, 3) := by decide +kernel
theorem dX5_passesThen_11 : decode cX5_passesThen 11 = .ok (.aload_n 0, 1) := by decide +kernel
theorem dX5_passesThen_12 : decode cX5_passesThen 12 = .ok (.getfield 13, 3) := by decide +kernel
theorem dX5_passesThen_15 : decode cX5_passesThen 15 = .ok (.invokestatic 144, 3) := by decide +kernel
theorem dX5_passesThen_18 : decode cX5_passesThen 18 = .ok (.aload_n 0, 1) := by decide +kernel
theorem dX5_passesThen_19 : decode cX5_passesThen 19 = .ok (.getfield 13, 3) := by decide +kernel
theorem dX5_passesThen_22 : decode cX5_passesThen 22 = .ok (.iload_n 2, 1) := by decide +kernel
theorem dX5_passesThen_23 : decode cX5_passesThen 23 = .ok (.invokestatic 45, 3) := by decide +kernel
theorem dX5_passesThen_26 : decode cX5_passesThen 26 = .ok (.iconst 3, 1) := by decide +kernel
theorem dX5_passesThen_27 : decode cX5_passesThen 27 = .ok (.iadd, 1) := by decide +kernel
theorem dX5_passesThen_28 : decode cX5_passesThen 28 = .ok (.laload, 1) := by decide +kernel
theorem dX5_passesThen_29 : decode cX5_passesThen 29 = .ok (.lload_n 3, 1) := by decide +kernel
theorem dX5_passesThen_30 : decode cX5_passesThen 30 = .ok (.lcmp, 1) := by decide +kernel
theorem dX5_passesThen_31 : decode cX5_passesThen 31 = .ok (.ifCond .le 17, 3) := by decide +kernel
theorem dX5_passesThen_34 : decode cX5_passesThen 34 = .ok (.aload_n 0, 1) := by decide +kernel
theorem dX5_passesThen_35 : decode cX5_passesThen 35 = .ok (.getfield 13, 3) := by decide +kernel
theorem dX5_passesThen_38 : decode cX5_passesThen 38 = .ok (.iload_n 2, 1) := by decide +kernel
theorem dX5_passesThen_39 : decode cX5_passesThen 39 = .ok (.invokestatic 45, 3) := by decide +kernel
theorem dX5_passesThen_42 : decode cX5_passesThen 42 = .ok (.iconst 3, 1) := by decide +kernel
theorem dX5_passesThen_43 : decode cX5_passesThen 43 = .ok (.iadd, 1) := by decide +kernel
theorem dX5_passesThen_44 : decode cX5_passesThen 44 = .ok (.laload, 1) := by decide +kernel
theorem dX5_passesThen_45 : decode cX5_passesThen 45 = .ok (.goto 4, 3) := by decide +kernel
theorem dX5_passesThen_48 : decode cX5_passesThen 48 = .ok (.lload_n 3, 1) := by decide +kernel
theorem dX5_passesThen_49 : decode cX5_passesThen 49 = .ok (.lstore_n 3, 1) := by decide +kernel
theorem dX5_passesThen_50 : decode cX5_passesThen 50 = .ok (.iinc 5 1, 3) := by decide +kernel
theorem dX5_passesThen_53 : decode cX5_passesThen 53 = .ok (.goto (-48), 3) := by decide +kernel
theorem dX5_passesThen_56 : decode cX5_passesThen 56 = .ok (.lload_n 3, 1) := by decide +kernel
theorem dX5_passesThen_57 : decode cX5_passesThen 57 = .ok (.lreturn, 1) := by decide +kernel
theorem dX5_loudIn_0 : decode cX5_loudIn 0 = .ok (.iload_n 1, 1) := by decide +kernel
theorem dX5_loudIn_1 : decode cX5_loudIn 1 = .ok (.iload_n 2, 1) := by decide +kernel
theorem dX5_loudIn_2 : decode cX5_loudIn 2 = .ok (.invokestatic 176, 3) := by decide +kernel
theorem dX5_loudIn_5 : decode cX5_loudIn 5 = .ok (.istore_n 3, 1) := by decide +kernel
theorem dX5_loudIn_6 : decode cX5_loudIn 6 = .ok (.iload_n 3, 1) := by decide +kernel
theorem dX5_loudIn_7 : decode cX5_loudIn 7 = .ok (.ifCond .eq 5, 3) := by decide +kernel
theorem dX5_loudIn_10 : decode cX5_loudIn 10 = .ok (.iload_n 3, 1) := by decide +kernel
theorem dX5_loudIn_11 : decode cX5_loudIn 11 = .ok (.ireturn, 1) := by decide +kernel
theorem dX5_loudIn_12 : decode cX5_loudIn 12 = .ok (.aload_n 0, 1) := by decide +kernel
theorem dX5_loudIn_13 : decode cX5_loudIn 13 = .ok (.invokevirtual 179, 3) := by decide +kernel
theorem dX5_loudIn_16 : decode cX5_loudIn 16 = .ok (.aload_n 0, 1) := by decide +kernel
theorem dX5_loudIn_17 : decode cX5_loudIn 17 = .ok (.iload_n 2, 1) := by decide +kernel
theorem dX5_loudIn_18 : decode cX5_loudIn 18 = .ok (.iload_n 1, 1) := by decide +kernel
theorem dX5_loudIn_19 : decode cX5_loudIn 19 = .ok (.invokevirtual 182, 3) := by decide +kernel
theorem dX5_loudIn_22 : decode cX5_loudIn 22 = .ok (.pop2, 1) := by decide +kernel
theorem dX5_loudIn_23 : decode cX5_loudIn 23 = .ok (.aload_n 0, 1) := by decide +kernel
theorem dX5_loudIn_24 : decode cX5_loudIn 24 = .ok (.getfield 13, 3) := by decide +kernel
theorem dX5_loudIn_27 : decode cX5_loudIn 27 = .ok (.iload_n 1, 1) := by decide +kernel
theorem dX5_loudIn_28 : decode cX5_loudIn 28 = .ok (.invokestatic 45, 3) := by decide +kernel
theorem dX5_loudIn_31 : decode cX5_loudIn 31 = .ok (.bipush 7, 2) := by decide +kernel
theorem dX5_loudIn_33 : decode cX5_loudIn 33 = .ok (.iadd, 1) := by decide +kernel
theorem dX5_loudIn_34 : decode cX5_loudIn 34 = .ok (.laload, 1) := by decide +kernel
theorem dX5_loudIn_35 : decode cX5_loudIn 35 = .ok (.aload_n 0, 1) := by decide +kernel
theorem dX5_loudIn_36 : decode cX5_loudIn 36 = .ok (.getfield 7, 3) := by decide +kernel
theorem dX5_loudIn_39 : decode cX5_loudIn 39 = .ok (.iload_n 1, 1) := by decide +kernel
theorem dX5_loudIn_40 : decode cX5_loudIn 40 = .ok (.invokestatic 45, 3) := by decide +kernel
theorem dX5_loudIn_43 : decode cX5_loudIn 43 = .ok (.bipush 7, 2) := by decide +kernel
theorem dX5_loudIn_45 : decode cX5_loudIn 45 = .ok (.iadd, 1) := by decide +kernel
theorem dX5_loudIn_46 : decode cX5_loudIn 46 = .ok (.laload, 1) := by decide +kernel
theorem dX5_loudIn_47 : decode cX5_loudIn 47 = .ok (.lsub, 1) := by decide +kernel
theorem dX5_loudIn_48 : decode cX5_loudIn 48 = .ok (.l2i, 1) := by decide +kernel
theorem dX5_loudIn_49 : decode cX5_loudIn 49 = .ok (.ireturn, 1) := by decide +kernel
theorem dX5_freeIn_0 : decode cX5_freeIn 0 = .ok (.iload_n 1, 1) := by decide +kernel
theorem dX5_freeIn_1 : decode cX5_freeIn 1 = .ok (.iload_n 2, 1) := by decide +kernel
theorem dX5_freeIn_2 : decode cX5_freeIn 2 = .ok (.invokestatic 176, 3) := by decide +kernel
theorem dX5_freeIn_5 : decode cX5_freeIn 5 = .ok (.istore_n 3, 1) := by decide +kernel
theorem dX5_freeIn_6 : decode cX5_freeIn 6 = .ok (.iload_n 3, 1) := by decide +kernel
theorem dX5_freeIn_7 : decode cX5_freeIn 7 = .ok (.ifCond .eq 5, 3) := by decide +kernel
theorem dX5_freeIn_10 : decode cX5_freeIn 10 = .ok (.iload_n 3, 1) := by decide +kernel
theorem dX5_freeIn_11 : decode cX5_freeIn 11 = .ok (.ireturn, 1) := by decide +kernel
theorem dX5_freeIn_12 : decode cX5_freeIn 12 = .ok (.aload_n 0, 1) := by decide +kernel
theorem dX5_freeIn_13 : decode cX5_freeIn 13 = .ok (.invokevirtual 179, 3) := by decide +kernel
theorem dX5_freeIn_16 : decode cX5_freeIn 16 = .ok (.aload_n 0, 1) := by decide +kernel
theorem dX5_freeIn_17 : decode cX5_freeIn 17 = .ok (.iload_n 2, 1) := by decide +kernel
theorem dX5_freeIn_18 : decode cX5_freeIn 18 = .ok (.iload_n 1, 1) := by decide +kernel
theorem dX5_freeIn_19 : decode cX5_freeIn 19 = .ok (.invokevirtual 182, 3) := by decide +kernel
theorem dX5_freeIn_22 : decode cX5_freeIn 22 = .ok (.pop2, 1) := by decide +kernel
theorem dX5_freeIn_23 : decode cX5_freeIn 23 = .ok (.aload_n 0, 1) := by decide +kernel
theorem dX5_freeIn_24 : decode cX5_freeIn 24 = .ok (.getfield 13, 3) := by decide +kernel
theorem dX5_freeIn_27 : decode cX5_freeIn 27 = .ok (.iload_n 1, 1) := by decide +kernel
theorem dX5_freeIn_28 : decode cX5_freeIn 28 = .ok (.invokestatic 45, 3) := by decide +kernel
theorem dX5_freeIn_31 : decode cX5_freeIn 31 = .ok (.iconst 0, 1) := by decide +kernel
theorem dX5_freeIn_32 : decode cX5_freeIn 32 = .ok (.iadd, 1) := by decide +kernel
theorem dX5_freeIn_33 : decode cX5_freeIn 33 = .ok (.laload, 1) := by decide +kernel
theorem dX5_freeIn_34 : decode cX5_freeIn 34 = .ok (.l2i, 1) := by decide +kernel
theorem dX5_freeIn_35 : decode cX5_freeIn 35 = .ok (.ireturn, 1) := by decide +kernel
theorem dX5_mostHeld_0 : decode cX5_mostHeld 0 = .ok (.iload_n 1, 1) := by decide +kernel
theorem dX5_mostHeld_1 : decode cX5_mostHeld 1 = .ok (.iload_n 2, 1) := by decide +kernel
theorem dX5_mostHeld_2 : decode cX5_mostHeld 2 = .ok (.invokestatic 176, 3) := by decide +kernel
theorem dX5_mostHeld_5 : decode cX5_mostHeld 5 = .ok (.istore_n 3, 1) := by decide +kernel
theorem dX5_mostHeld_6 : decode cX5_mostHeld 6 = .ok (.iload_n 3, 1) := by decide +kernel
theorem dX5_mostHeld_7 : decode cX5_mostHeld 7 = .ok (.ifCond .eq 5, 3) := by decide +kernel
theorem dX5_mostHeld_10 : decode cX5_mostHeld 10 = .ok (.iload_n 3, 1) := by decide +kernel
theorem dX5_mostHeld_11 : decode cX5_mostHeld 11 = .ok (.ireturn, 1) := by decide +kernel
theorem dX5_mostHeld_12 : decode cX5_mostHeld 12 = .ok (.aload_n 0, 1) := by decide +kernel
theorem dX5_mostHeld_13 : decode cX5_mostHeld 13 = .ok (.invokevirtual 179, 3) := by decide +kernel
theorem dX5_mostHeld_16 : decode cX5_mostHeld 16 = .ok (.aload_n 0, 1) := by decide +kernel
theorem dX5_mostHeld_17 : decode cX5_mostHeld 17 = .ok (.iload_n 2, 1) := by decide +kernel
theorem dX5_mostHeld_18 : decode cX5_mostHeld 18 = .ok (.iload_n 1, 1) := by decide +kernel
theorem dX5_mostHeld_19 : decode cX5_mostHeld 19 = .ok (.invokevirtual 182, 3) := by decide +kernel
theorem dX5_mostHeld_22 : decode cX5_mostHeld 22 = .ok (.l2i, 1) := by decide +kernel
theorem dX5_mostHeld_23 : decode cX5_mostHeld 23 = .ok (.ireturn, 1) := by decide +kernel
theorem dX5_isSafe_0 : decode cX5_isSafe 0 = .ok (.aload_n 0, 1) := by decide +kernel
theorem dX5_isSafe_1 : decode cX5_isSafe 1 = .ok (.invokevirtual 179, 3) := by decide +kernel
theorem dX5_isSafe_4 : decode cX5_isSafe 4 = .ok (.aload_n 0, 1) := by decide +kernel
theorem dX5_isSafe_5 : decode cX5_isSafe 5 = .ok (.getfield 13, 3) := by decide +kernel
theorem dX5_isSafe_8 : decode cX5_isSafe 8 = .ok (.bipush 56, 2) := by decide +kernel
theorem dX5_isSafe_10 : decode cX5_isSafe 10 = .ok (.bipush 100, 2) := by decide +kernel
theorem dX5_isSafe_12 : decode cX5_isSafe 12 = .ok (.iload_n 1, 1) := by decide +kernel
theorem dX5_isSafe_13 : decode cX5_isSafe 13 = .ok (.imul, 1) := by decide +kernel
theorem dX5_isSafe_14 : decode cX5_isSafe 14 = .ok (.iadd, 1) := by decide +kernel
theorem dX5_isSafe_15 : decode cX5_isSafe 15 = .ok (.iload_n 2, 1) := by decide +kernel
theorem dX5_isSafe_16 : decode cX5_isSafe 16 = .ok (.iadd, 1) := by decide +kernel
theorem dX5_isSafe_17 : decode cX5_isSafe 17 = .ok (.lconst 1, 1) := by decide +kernel
theorem dX5_isSafe_18 : decode cX5_isSafe 18 = .ok (.lastore, 1) := by decide +kernel
theorem dX5_isSafe_19 : decode cX5_isSafe 19 = .ok (.aload_n 0, 1) := by decide +kernel
theorem dX5_isSafe_20 : decode cX5_isSafe 20 = .ok (.ldc2_w 33, 3) := by decide +kernel
theorem dX5_isSafe_23 : decode cX5_isSafe 23 = .ok (.iload_n 2, 1) := by decide +kernel
theorem dX5_isSafe_24 : decode cX5_isSafe 24 = .ok (.i2l, 1) := by decide +kernel
theorem dX5_isSafe_25 : decode cX5_isSafe 25 = .ok (.lmul, 1) := by decide +kernel
theorem dX5_isSafe_26 : decode cX5_isSafe 26 = .ok (.aload_n 0, 1) := by decide +kernel
theorem dX5_isSafe_27 : decode cX5_isSafe 27 = .ok (.getfield 7, 3) := by decide +kernel
theorem dX5_isSafe_30 : decode cX5_isSafe 30 = .ok (.iconst 0, 1) := by decide +kernel
theorem dX5_isSafe_31 : decode cX5_isSafe 31 = .ok (.laload, 1) := by decide +kernel
theorem dX5_isSafe_32 : decode cX5_isSafe 32 = .ok (.lsub, 1) := by decide +kernel
theorem dX5_isSafe_33 : decode cX5_isSafe 33 = .ok (.l2i, 1) := by decide +kernel
theorem dX5_isSafe_34 : decode cX5_isSafe 34 = .ok (.iload_n 1, 1) := by decide +kernel
theorem dX5_isSafe_35 : decode cX5_isSafe 35 = .ok (.invokevirtual 182, 3) := by decide +kernel
theorem dX5_isSafe_38 : decode cX5_isSafe 38 = .ok (.pop2, 1) := by decide +kernel
theorem dX5_isSafe_39 : decode cX5_isSafe 39 = .ok (.aload_n 0, 1) := by decide +kernel
theorem dX5_isSafe_40 : decode cX5_isSafe 40 = .ok (.getfield 13, 3) := by decide +kernel
theorem dX5_isSafe_43 : decode cX5_isSafe 43 = .ok (.invokestatic 186, 3) := by decide +kernel
theorem dX5_isSafe_46 : decode cX5_isSafe 46 = .ok (.lstore_n 3, 1) := by decide +kernel
theorem dX5_isSafe_47 : decode cX5_isSafe 47 = .ok (.aload_n 0, 1) := by decide +kernel
theorem dX5_isSafe_48 : decode cX5_isSafe 48 = .ok (.bipush 60, 2) := by decide +kernel
theorem dX5_isSafe_50 : decode cX5_isSafe 50 = .ok (.iload_n 1, 1) := by decide +kernel
theorem dX5_isSafe_51 : decode cX5_isSafe 51 = .ok (.invokevirtual 182, 3) := by decide +kernel
theorem dX5_isSafe_54 : decode cX5_isSafe 54 = .ok (.pop2, 1) := by decide +kernel
theorem dX5_isSafe_55 : decode cX5_isSafe 55 = .ok (.aload_n 0, 1) := by decide +kernel
theorem dX5_isSafe_56 : decode cX5_isSafe 56 = .ok (.getfield 13, 3) := by decide +kernel
theorem dX5_isSafe_59 : decode cX5_isSafe 59 = .ok (.invokestatic 186, 3) := by decide +kernel
theorem dX5_isSafe_62 : decode cX5_isSafe 62 = .ok (.lload_n 3, 1) := by decide +kernel
theorem dX5_isSafe_63 : decode cX5_isSafe 63 = .ok (.lcmp, 1) := by decide +kernel
theorem dX5_isSafe_64 : decode cX5_isSafe 64 = .ok (.ifCond .ne 7, 3) := by decide +kernel
theorem dX5_isSafe_67 : decode cX5_isSafe 67 = .ok (.iconst 1, 1) := by decide +kernel
theorem dX5_isSafe_68 : decode cX5_isSafe 68 = .ok (.goto 4, 3) := by decide +kernel
theorem dX5_isSafe_71 : decode cX5_isSafe 71 = .ok (.iconst 0, 1) := by decide +kernel
theorem dX5_isSafe_72 : decode cX5_isSafe 72 = .ok (.ireturn, 1) := by decide +kernel
theorem dX5_firstSafe_0 : decode cX5_firstSafe 0 = .ok (.iload_n 1, 1) := by decide +kernel
theorem dX5_firstSafe_1 : decode cX5_firstSafe 1 = .ok (.invokestatic 107, 3) := by decide +kernel
theorem dX5_firstSafe_4 : decode cX5_firstSafe 4 = .ok (.ifCond .ne 5, 3) := by decide +kernel
theorem dX5_firstSafe_7 : decode cX5_firstSafe 7 = .ok (.iconst (-1), 1) := by decide +kernel
theorem dX5_firstSafe_8 : decode cX5_firstSafe 8 = .ok (.ireturn, 1) := by decide +kernel
theorem dX5_firstSafe_9 : decode cX5_firstSafe 9 = .ok (.aload_n 0, 1) := by decide +kernel
theorem dX5_firstSafe_10 : decode cX5_firstSafe 10 = .ok (.getfield 7, 3) := by decide +kernel
theorem dX5_firstSafe_13 : decode cX5_firstSafe 13 = .ok (.iconst 0, 1) := by decide +kernel
theorem dX5_firstSafe_14 : decode cX5_firstSafe 14 = .ok (.laload, 1) := by decide +kernel
theorem dX5_firstSafe_15 : decode cX5_firstSafe 15 = .ok (.ldc2_w 33, 3) := by decide +kernel
theorem dX5_firstSafe_18 : decode cX5_firstSafe 18 = .ok (.ldiv, 1) := by decide +kernel
theorem dX5_firstSafe_19 : decode cX5_firstSafe 19 = .ok (.lconst 1, 1) := by decide +kernel
theorem dX5_firstSafe_20 : decode cX5_firstSafe 20 = .ok (.ladd, 1) := by decide +kernel
theorem dX5_firstSafe_21 : decode cX5_firstSafe 21 = .ok (.lstore_n 2, 1) := by decide +kernel
theorem dX5_firstSafe_22 : decode cX5_firstSafe 22 = .ok (.lload_n 2, 1) := by decide +kernel
theorem dX5_firstSafe_23 : decode cX5_firstSafe 23 = .ok (.lstore 4, 2) := by decide +kernel
theorem dX5_firstSafe_25 : decode cX5_firstSafe 25 = .ok (.lload 4, 2) := by decide +kernel
theorem dX5_firstSafe_27 : decode cX5_firstSafe 27 = .ok (.lload_n 2, 1) := by decide +kernel
theorem dX5_firstSafe_28 : decode cX5_firstSafe 28 = .ok (.ldc2_w 190, 3) := by decide +kernel
theorem dX5_firstSafe_31 : decode cX5_firstSafe 31 = .ok (.ladd, 1) := by decide +kernel
theorem dX5_firstSafe_32 : decode cX5_firstSafe 32 = .ok (.lcmp, 1) := by decide +kernel
theorem dX5_firstSafe_33 : decode cX5_firstSafe 33 = .ok (.ifCond .ge 49, 3) := by decide +kernel
theorem dX5_firstSafe_36 : decode cX5_firstSafe 36 = .ok (.lload 4, 2) := by decide +kernel
theorem dX5_firstSafe_38 : decode cX5_firstSafe 38 = .ok (.ldc2_w 68, 3) := by decide +kernel
theorem dX5_firstSafe_41 : decode cX5_firstSafe 41 = .ok (.lcmp, 1) := by decide +kernel
theorem dX5_firstSafe_42 : decode cX5_firstSafe 42 = .ok (.ifCond .ge 40, 3) := by decide +kernel
theorem dX5_firstSafe_45 : decode cX5_firstSafe 45 = .ok (.aload_n 0, 1) := by decide +kernel
theorem dX5_firstSafe_46 : decode cX5_firstSafe 46 = .ok (.getfield 7, 3) := by decide +kernel
theorem dX5_firstSafe_49 : decode cX5_firstSafe 49 = .ok (.iload_n 1, 1) := by decide +kernel
theorem dX5_firstSafe_50 : decode cX5_firstSafe 50 = .ok (.lload 4, 2) := by decide +kernel
theorem dX5_firstSafe_52 : decode cX5_firstSafe 52 = .ok (.invokestatic 70, 3) := by decide +kernel
theorem dX5_firstSafe_55 : decode cX5_firstSafe 55 = .ok (.ifCond .ne 18, 3) := by decide +kernel
theorem dX5_firstSafe_58 : decode cX5_firstSafe 58 = .ok (.aload_n 0, 1) := by decide +kernel
theorem dX5_firstSafe_59 : decode cX5_firstSafe 59 = .ok (.iload_n 1, 1) := by decide +kernel
theorem dX5_firstSafe_60 : decode cX5_firstSafe 60 = .ok (.lload 4, 2) := by decide +kernel
theorem dX5_firstSafe_62 : decode cX5_firstSafe 62 = .ok (.l2i, 1) := by decide +kernel
theorem dX5_firstSafe_63 : decode cX5_firstSafe 63 = .ok (.invokevirtual 192, 3) := by decide +kernel
theorem dX5_firstSafe_66 : decode cX5_firstSafe 66 = .ok (.ifCond .eq 7, 3) := by decide +kernel
theorem dX5_firstSafe_69 : decode cX5_firstSafe 69 = .ok (.lload 4, 2) := by decide +kernel
theorem dX5_firstSafe_71 : decode cX5_firstSafe 71 = .ok (.l2i, 1) := by decide +kernel
theorem dX5_firstSafe_72 : decode cX5_firstSafe 72 = .ok (.ireturn, 1) := by decide +kernel
theorem dX5_firstSafe_73 : decode cX5_firstSafe 73 = .ok (.lload 4, 2) := by decide +kernel
theorem dX5_firstSafe_75 : decode cX5_firstSafe 75 = .ok (.lconst 1, 1) := by decide +kernel
theorem dX5_firstSafe_76 : decode cX5_firstSafe 76 = .ok (.ladd, 1) := by decide +kernel
theorem dX5_firstSafe_77 : decode cX5_firstSafe 77 = .ok (.lstore 4, 2) := by decide +kernel
theorem dX5_firstSafe_79 : decode cX5_firstSafe 79 = .ok (.goto (-54), 3) := by decide +kernel
theorem dX5_firstSafe_82 : decode cX5_firstSafe 82 = .ok (.bipush (-6), 2) := by decide +kernel
theorem dX5_firstSafe_84 : decode cX5_firstSafe 84 = .ok (.ireturn, 1) := by decide +kernel
theorem dX5_leastRoom_0 : decode cX5_leastRoom 0 = .ok (.iload_n 1, 1) := by decide +kernel
theorem dX5_leastRoom_1 : decode cX5_leastRoom 1 = .ok (.i2l, 1) := by decide +kernel
theorem dX5_leastRoom_2 : decode cX5_leastRoom 2 = .ok (.lconst 1, 1) := by decide +kernel
theorem dX5_leastRoom_3 : decode cX5_leastRoom 3 = .ok (.ldc2_w 195, 3) := by decide +kernel
theorem dX5_leastRoom_6 : decode cX5_leastRoom 6 = .ok (.invokestatic 51, 3) := by decide +kernel
theorem dX5_leastRoom_9 : decode cX5_leastRoom 9 = .ok (.ifCond .ne 6, 3) := by decide +kernel
theorem dX5_leastRoom_12 : decode cX5_leastRoom 12 = .ok (.bipush (-2), 2) := by decide +kernel
theorem dX5_leastRoom_14 : decode cX5_leastRoom 14 = .ok (.ireturn, 1) := by decide +kernel
theorem dX5_leastRoom_15 : decode cX5_leastRoom 15 = .ok (.iconst 0, 1) := by decide +kernel
theorem dX5_leastRoom_16 : decode cX5_leastRoom 16 = .ok (.istore_n 2, 1) := by decide +kernel
theorem dX5_leastRoom_17 : decode cX5_leastRoom 17 = .ok (.iload_n 2, 1) := by decide +kernel
theorem dX5_leastRoom_18 : decode cX5_leastRoom 18 = .ok (.bipush 60, 2) := by decide +kernel
theorem dX5_leastRoom_20 : decode cX5_leastRoom 20 = .ok (.if_icmp .gt 52, 3) := by decide +kernel
theorem dX5_leastRoom_23 : decode cX5_leastRoom 23 = .ok (.aload_n 0, 1) := by decide +kernel
theorem dX5_leastRoom_24 : decode cX5_leastRoom 24 = .ok (.invokevirtual 179, 3) := by decide +kernel
theorem dX5_leastRoom_27 : decode cX5_leastRoom 27 = .ok (.aload_n 0, 1) := by decide +kernel
theorem dX5_leastRoom_28 : decode cX5_leastRoom 28 = .ok (.getfield 13, 3) := by decide +kernel
theorem dX5_leastRoom_31 : decode cX5_leastRoom 31 = .ok (.bipush 11, 2) := by decide +kernel
theorem dX5_leastRoom_33 : decode cX5_leastRoom 33 = .ok (.iload_n 2, 1) := by decide +kernel
theorem dX5_leastRoom_34 : decode cX5_leastRoom 34 = .ok (.i2l, 1) := by decide +kernel
theorem dX5_leastRoom_35 : decode cX5_leastRoom 35 = .ok (.lastore, 1) := by decide +kernel
theorem dX5_leastRoom_36 : decode cX5_leastRoom 36 = .ok (.aload_n 0, 1) := by decide +kernel
theorem dX5_leastRoom_37 : decode cX5_leastRoom 37 = .ok (.bipush 60, 2) := by decide +kernel
theorem dX5_leastRoom_39 : decode cX5_leastRoom 39 = .ok (.iload_n 1, 1) := by decide +kernel
theorem dX5_leastRoom_40 : decode cX5_leastRoom 40 = .ok (.imul, 1) := by decide +kernel
theorem dX5_leastRoom_41 : decode cX5_leastRoom 41 = .ok (.iconst 0, 1) := by decide +kernel
theorem dX5_leastRoom_42 : decode cX5_leastRoom 42 = .ok (.invokevirtual 182, 3) := by decide +kernel
theorem dX5_leastRoom_45 : decode cX5_leastRoom 45 = .ok (.pop2, 1) := by decide +kernel
theorem dX5_leastRoom_46 : decode cX5_leastRoom 46 = .ok (.aload_n 0, 1) := by decide +kernel
theorem dX5_leastRoom_47 : decode cX5_leastRoom 47 = .ok (.getfield 13, 3) := by decide +kernel
theorem dX5_leastRoom_50 : decode cX5_leastRoom 50 = .ok (.invokestatic 186, 3) := by decide +kernel
theorem dX5_leastRoom_53 : decode cX5_leastRoom 53 = .ok (.aload_n 0, 1) := by decide +kernel
theorem dX5_leastRoom_54 : decode cX5_leastRoom 54 = .ok (.getfield 7, 3) := by decide +kernel
theorem dX5_leastRoom_57 : decode cX5_leastRoom 57 = .ok (.invokestatic 186, 3) := by decide +kernel
theorem dX5_leastRoom_60 : decode cX5_leastRoom 60 = .ok (.lcmp, 1) := by decide +kernel
theorem dX5_leastRoom_61 : decode cX5_leastRoom 61 = .ok (.ifCond .ne 5, 3) := by decide +kernel
theorem dX5_leastRoom_64 : decode cX5_leastRoom 64 = .ok (.iload_n 2, 1) := by decide +kernel
theorem dX5_leastRoom_65 : decode cX5_leastRoom 65 = .ok (.ireturn, 1) := by decide +kernel
theorem dX5_leastRoom_66 : decode cX5_leastRoom 66 = .ok (.iinc 2 1, 3) := by decide +kernel
theorem dX5_leastRoom_69 : decode cX5_leastRoom 69 = .ok (.goto (-52), 3) := by decide +kernel
theorem dX5_leastRoom_72 : decode cX5_leastRoom 72 = .ok (.bipush (-6), 2) := by decide +kernel
theorem dX5_leastRoom_74 : decode cX5_leastRoom 74 = .ok (.ireturn, 1) := by decide +kernel
theorem dX5_byteOf_0 : decode cX5_byteOf 0 = .ok (.lload_n 0, 1) := by decide +kernel
theorem dX5_byteOf_1 : decode cX5_byteOf 1 = .ok (.bipush 8, 2) := by decide +kernel
theorem dX5_byteOf_3 : decode cX5_byteOf 3 = .ok (.iload_n 2, 1) := by decide +kernel
theorem dX5_byteOf_4 : decode cX5_byteOf 4 = .ok (.imul, 1) := by decide +kernel
theorem dX5_byteOf_5 : decode cX5_byteOf 5 = .ok (.lshr, 1) := by decide +kernel
theorem dX5_byteOf_6 : decode cX5_byteOf 6 = .ok (.ldc2_w 197, 3) := by decide +kernel
theorem dX5_byteOf_9 : decode cX5_byteOf 9 = .ok (.land, 1) := by decide +kernel
theorem dX5_byteOf_10 : decode cX5_byteOf 10 = .ok (.l2i, 1) := by decide +kernel
theorem dX5_byteOf_11 : decode cX5_byteOf 11 = .ok (.ireturn, 1) := by decide +kernel
theorem dX5_toldBy_0 : decode cX5_toldBy 0 = .ok (.iconst 0, 1) := by decide +kernel
theorem dX5_toldBy_1 : decode cX5_toldBy 1 = .ok (.istore_n 2, 1) := by decide +kernel
theorem dX5_toldBy_2 : decode cX5_toldBy 2 = .ok (.iload_n 2, 1) := by decide +kernel
theorem dX5_toldBy_3 : decode cX5_toldBy 3 = .ok (.bipush 8, 2) := by decide +kernel
theorem dX5_toldBy_5 : decode cX5_toldBy 5 = .ok (.if_icmp .ge 38, 3) := by decide +kernel
theorem dX5_toldBy_8 : decode cX5_toldBy 8 = .ok (.lload_n 0, 1) := by decide +kernel
theorem dX5_toldBy_9 : decode cX5_toldBy 9 = .ok (.iload_n 2, 1) := by decide +kernel
theorem dX5_toldBy_10 : decode cX5_toldBy 10 = .ok (.invokestatic 199, 3) := by decide +kernel
theorem dX5_toldBy_13 : decode cX5_toldBy 13 = .ok (.ifCond .eq 30, 3) := by decide +kernel
theorem dX5_toldBy_16 : decode cX5_toldBy 16 = .ok (.lload_n 0, 1) := by decide +kernel
theorem dX5_toldBy_17 : decode cX5_toldBy 17 = .ok (.iload_n 2, 1) := by decide +kernel
theorem dX5_toldBy_18 : decode cX5_toldBy 18 = .ok (.invokestatic 199, 3) := by decide +kernel
theorem dX5_toldBy_21 : decode cX5_toldBy 21 = .ok (.i2l, 1) := by decide +kernel
theorem dX5_toldBy_22 : decode cX5_toldBy 22 = .ok (.ldc2_w 203, 3) := by decide +kernel
theorem dX5_toldBy_25 : decode cX5_toldBy 25 = .ok (.ldc2_w 205, 3) := by decide +kernel
theorem dX5_toldBy_28 : decode cX5_toldBy 28 = .ok (.invokestatic 51, 3) := by decide +kernel
theorem dX5_toldBy_31 : decode cX5_toldBy 31 = .ok (.ifCond .ne 6, 3) := by decide +kernel
theorem dX5_toldBy_34 : decode cX5_toldBy 34 = .ok (.bipush (-2), 2) := by decide +kernel
theorem dX5_toldBy_36 : decode cX5_toldBy 36 = .ok (.ireturn, 1) := by decide +kernel
theorem dX5_toldBy_37 : decode cX5_toldBy 37 = .ok (.iinc 2 1, 3) := by decide +kernel
theorem dX5_toldBy_40 : decode cX5_toldBy 40 = .ok (.goto (-38), 3) := by decide +kernel
theorem dX5_toldBy_43 : decode cX5_toldBy 43 = .ok (.iload_n 2, 1) := by decide +kernel
theorem dX5_toldBy_44 : decode cX5_toldBy 44 = .ok (.istore_n 3, 1) := by decide +kernel
theorem dX5_toldBy_45 : decode cX5_toldBy 45 = .ok (.iload_n 3, 1) := by decide +kernel
theorem dX5_toldBy_46 : decode cX5_toldBy 46 = .ok (.bipush 8, 2) := by decide +kernel
theorem dX5_toldBy_48 : decode cX5_toldBy 48 = .ok (.if_icmp .ge 20, 3) := by decide +kernel
theorem dX5_toldBy_51 : decode cX5_toldBy 51 = .ok (.lload_n 0, 1) := by decide +kernel
theorem dX5_toldBy_52 : decode cX5_toldBy 52 = .ok (.iload_n 3, 1) := by decide +kernel
theorem dX5_toldBy_53 : decode cX5_toldBy 53 = .ok (.invokestatic 199, 3) := by decide +kernel
theorem dX5_toldBy_56 : decode cX5_toldBy 56 = .ok (.ifCond .eq 6, 3) := by decide +kernel
theorem dX5_toldBy_59 : decode cX5_toldBy 59 = .ok (.bipush (-2), 2) := by decide +kernel
theorem dX5_toldBy_61 : decode cX5_toldBy 61 = .ok (.ireturn, 1) := by decide +kernel
theorem dX5_toldBy_62 : decode cX5_toldBy 62 = .ok (.iinc 3 1, 3) := by decide +kernel
theorem dX5_toldBy_65 : decode cX5_toldBy 65 = .ok (.goto (-20), 3) := by decide +kernel
theorem dX5_toldBy_68 : decode cX5_toldBy 68 = .ok (.iload_n 2, 1) := by decide +kernel
theorem dX5_toldBy_69 : decode cX5_toldBy 69 = .ok (.ifCond .ne 8, 3) := by decide +kernel
theorem dX5_toldBy_72 : decode cX5_toldBy 72 = .ok (.bipush (-2), 2) := by decide +kernel
theorem dX5_toldBy_74 : decode cX5_toldBy 74 = .ok (.goto 4, 3) := by decide +kernel
theorem dX5_toldBy_77 : decode cX5_toldBy 77 = .ok (.iload_n 2, 1) := by decide +kernel
theorem dX5_toldBy_78 : decode cX5_toldBy 78 = .ok (.ireturn, 1) := by decide +kernel
theorem dX5_put_0 : decode cX5_put 0 = .ok (.lload_n 1, 1) := by decide +kernel
theorem dX5_put_1 : decode cX5_put 1 = .ok (.invokestatic 207, 3) := by decide +kernel
theorem dX5_put_4 : decode cX5_put 4 = .ok (.istore_n 3, 1) := by decide +kernel
theorem dX5_put_5 : decode cX5_put 5 = .ok (.iload_n 3, 1) := by decide +kernel
theorem dX5_put_6 : decode cX5_put 6 = .ok (.ifCond .ge 5, 3) := by decide +kernel
theorem dX5_put_9 : decode cX5_put 9 = .ok (.iload_n 3, 1) := by decide +kernel
theorem dX5_put_10 : decode cX5_put 10 = .ok (.ireturn, 1) := by decide +kernel
theorem dX5_put_11 : decode cX5_put 11 = .ok (.aload_n 0, 1) := by decide +kernel
theorem dX5_put_12 : decode cX5_put 12 = .ok (.getfield 173, 3) := by decide +kernel
theorem dX5_put_15 : decode cX5_put 15 = .ok (.iload_n 3, 1) := by decide +kernel
theorem dX5_put_16 : decode cX5_put 16 = .ok (.iadd, 1) := by decide +kernel
theorem dX5_put_17 : decode cX5_put 17 = .ok (.bipush 80, 2) := by decide +kernel
theorem dX5_put_19 : decode cX5_put 19 = .ok (.if_icmp .le 6, 3) := by decide +kernel
theorem dX5_put_22 : decode cX5_put 22 = .ok (.bipush (-4), 2) := by decide +kernel
theorem dX5_put_24 : decode cX5_put 24 = .ok (.ireturn, 1) := by decide +kernel
theorem dX5_put_25 : decode cX5_put 25 = .ok (.iload_n 3, 1) := by decide +kernel
theorem dX5_put_26 : decode cX5_put 26 = .ok (.iconst 1, 1) := by decide +kernel
theorem dX5_put_27 : decode cX5_put 27 = .ok (.isub, 1) := by decide +kernel
theorem dX5_put_28 : decode cX5_put 28 = .ok (.istore 4, 2) := by decide +kernel
theorem dX5_put_30 : decode cX5_put 30 = .ok (.iload 4, 2) := by decide +kernel
theorem dX5_put_32 : decode cX5_put 32 = .ok (.ifCond .lt 34, 3) := by decide +kernel
theorem dX5_put_35 : decode cX5_put 35 = .ok (.aload_n 0, 1) := by decide +kernel
theorem dX5_put_36 : decode cX5_put 36 = .ok (.getfield 26, 3) := by decide +kernel
theorem dX5_put_39 : decode cX5_put 39 = .ok (.aload_n 0, 1) := by decide +kernel
theorem dX5_put_40 : decode cX5_put 40 = .ok (.getfield 173, 3) := by decide +kernel
theorem dX5_put_43 : decode cX5_put 43 = .ok (.lload_n 1, 1) := by decide +kernel
theorem dX5_put_44 : decode cX5_put 44 = .ok (.iload 4, 2) := by decide +kernel
theorem dX5_put_46 : decode cX5_put 46 = .ok (.invokestatic 199, 3) := by decide +kernel
theorem dX5_put_49 : decode cX5_put 49 = .ok (.iastore, 1) := by decide +kernel
theorem dX5_put_50 : decode cX5_put 50 = .ok (.aload_n 0, 1) := by decide +kernel
theorem dX5_put_51 : decode cX5_put 51 = .ok (.dup, 1) := by decide +kernel
theorem dX5_put_52 : decode cX5_put 52 = .ok (.getfield 173, 3) := by decide +kernel
theorem dX5_put_55 : decode cX5_put 55 = .ok (.iconst 1, 1) := by decide +kernel
theorem dX5_put_56 : decode cX5_put 56 = .ok (.iadd, 1) := by decide +kernel
theorem dX5_put_57 : decode cX5_put 57 = .ok (.putfield 173, 3) := by decide +kernel
theorem dX5_put_60 : decode cX5_put 60 = .ok (.iinc 4 (-1), 3) := by decide +kernel
theorem dX5_put_63 : decode cX5_put 63 = .ok (.goto (-33), 3) := by decide +kernel
theorem dX5_put_66 : decode cX5_put 66 = .ok (.aload_n 0, 1) := by decide +kernel
theorem dX5_put_67 : decode cX5_put 67 = .ok (.getfield 173, 3) := by decide +kernel
theorem dX5_put_70 : decode cX5_put 70 = .ok (.ireturn, 1) := by decide +kernel
theorem dX5_wipe_0 : decode cX5_wipe 0 = .ok (.aload_n 0, 1) := by decide +kernel
theorem dX5_wipe_1 : decode cX5_wipe 1 = .ok (.getfield 173, 3) := by decide +kernel
theorem dX5_wipe_4 : decode cX5_wipe 4 = .ok (.istore_n 1, 1) := by decide +kernel
theorem dX5_wipe_5 : decode cX5_wipe 5 = .ok (.aload_n 0, 1) := by decide +kernel
theorem dX5_wipe_6 : decode cX5_wipe 6 = .ok (.iconst 0, 1) := by decide +kernel
theorem dX5_wipe_7 : decode cX5_wipe 7 = .ok (.putfield 173, 3) := by decide +kernel
theorem dX5_wipe_10 : decode cX5_wipe 10 = .ok (.iload_n 1, 1) := by decide +kernel
theorem dX5_wipe_11 : decode cX5_wipe 11 = .ok (.ireturn, 1) := by decide +kernel
theorem dX5_isAt_0 : decode cX5_isAt 0 = .ok (.aload_n 0, 1) := by decide +kernel
theorem dX5_isAt_1 : decode cX5_isAt 1 = .ok (.getfield 211, 3) := by decide +kernel
theorem dX5_isAt_4 : decode cX5_isAt 4 = .ok (.aload_n 0, 1) := by decide +kernel
theorem dX5_isAt_5 : decode cX5_isAt 5 = .ok (.getfield 173, 3) := by decide +kernel
theorem dX5_isAt_8 : decode cX5_isAt 8 = .ok (.if_icmp .ge 27, 3) := by decide +kernel
theorem dX5_isAt_11 : decode cX5_isAt 11 = .ok (.aload_n 0, 1) := by decide +kernel
theorem dX5_isAt_12 : decode cX5_isAt 12 = .ok (.getfield 26, 3) := by decide +kernel
theorem dX5_isAt_15 : decode cX5_isAt 15 = .ok (.aload_n 0, 1) := by decide +kernel
theorem dX5_isAt_16 : decode cX5_isAt 16 = .ok (.getfield 211, 3) := by decide +kernel
theorem dX5_isAt_19 : decode cX5_isAt 19 = .ok (.iaload, 1) := by decide +kernel
theorem dX5_isAt_20 : decode cX5_isAt 20 = .ok (.i2l, 1) := by decide +kernel
theorem dX5_isAt_21 : decode cX5_isAt 21 = .ok (.iload_n 1, 1) := by decide +kernel
theorem dX5_isAt_22 : decode cX5_isAt 22 = .ok (.i2l, 1) := by decide +kernel
theorem dX5_isAt_23 : decode cX5_isAt 23 = .ok (.iload_n 2, 1) := by decide +kernel
theorem dX5_isAt_24 : decode cX5_isAt 24 = .ok (.i2l, 1) := by decide +kernel
theorem dX5_isAt_25 : decode cX5_isAt 25 = .ok (.invokestatic 51, 3) := by decide +kernel
theorem dX5_isAt_28 : decode cX5_isAt 28 = .ok (.ifCond .eq 7, 3) := by decide +kernel
theorem dX5_isAt_31 : decode cX5_isAt 31 = .ok (.iconst 1, 1) := by decide +kernel
theorem dX5_isAt_32 : decode cX5_isAt 32 = .ok (.goto 4, 3) := by decide +kernel
theorem dX5_isAt_35 : decode cX5_isAt 35 = .ok (.iconst 0, 1) := by decide +kernel
theorem dX5_isAt_36 : decode cX5_isAt 36 = .ok (.ireturn, 1) := by decide +kernel
theorem dX5_isSign_0 : decode cX5_isSign 0 = .ok (.aload_n 0, 1) := by decide +kernel
theorem dX5_isSign_1 : decode cX5_isSign 1 = .ok (.iload_n 1, 1) := by decide +kernel
theorem dX5_isSign_2 : decode cX5_isSign 2 = .ok (.iload_n 1, 1) := by decide +kernel
theorem dX5_isSign_3 : decode cX5_isSign 3 = .ok (.invokevirtual 214, 3) := by decide +kernel
theorem dX5_isSign_6 : decode cX5_isSign 6 = .ok (.istore_n 2, 1) := by decide +kernel
theorem dX5_isSign_7 : decode cX5_isSign 7 = .ok (.aload_n 0, 1) := by decide +kernel
theorem dX5_isSign_8 : decode cX5_isSign 8 = .ok (.dup, 1) := by decide +kernel
theorem dX5_isSign_9 : decode cX5_isSign 9 = .ok (.getfield 211, 3) := by decide +kernel
theorem dX5_isSign_12 : decode cX5_isSign 12 = .ok (.iload_n 2, 1) := by decide +kernel
theorem dX5_isSign_13 : decode cX5_isSign 13 = .ok (.ifCond .eq 7, 3) := by decide +kernel
theorem dX5_isSign_16 : decode cX5_isSign 16 = .ok (.iconst 1, 1) := by decide +kernel
theorem dX5_isSign_17 : decode cX5_isSign 17 = .ok (.goto 4, 3) := by decide +kernel
theorem dX5_isSign_20 : decode cX5_isSign 20 = .ok (.iconst 0, 1) := by decide +kernel
theorem dX5_isSign_21 : decode cX5_isSign 21 = .ok (.iadd, 1) := by decide +kernel
theorem dX5_isSign_22 : decode cX5_isSign 22 = .ok (.putfield 211, 3) := by decide +kernel
theorem dX5_isSign_25 : decode cX5_isSign 25 = .ok (.iload_n 2, 1) := by decide +kernel
theorem dX5_isSign_26 : decode cX5_isSign 26 = .ok (.ireturn, 1) := by decide +kernel
theorem dX5_isNumber_0 : decode cX5_isNumber 0 = .ok (.aload_n 0, 1) := by decide +kernel
theorem dX5_isNumber_1 : decode cX5_isNumber 1 = .ok (.bipush 48, 2) := by decide +kernel
theorem dX5_isNumber_3 : decode cX5_isNumber 3 = .ok (.bipush 57, 2) := by decide +kernel
theorem dX5_isNumber_5 : decode cX5_isNumber 5 = .ok (.invokevirtual 214, 3) := by decide +kernel
theorem dX5_isNumber_8 : decode cX5_isNumber 8 = .ok (.ifCond .ne 5, 3) := by decide +kernel
theorem dX5_isNumber_11 : decode cX5_isNumber 11 = .ok (.iconst 0, 1) := by decide +kernel
theorem dX5_isNumber_12 : decode cX5_isNumber 12 = .ok (.ireturn, 1) := by decide +kernel
theorem dX5_isNumber_13 : decode cX5_isNumber 13 = .ok (.aload_n 0, 1) := by decide +kernel
theorem dX5_isNumber_14 : decode cX5_isNumber 14 = .ok (.getfield 26, 3) := by decide +kernel
theorem dX5_isNumber_17 : decode cX5_isNumber 17 = .ok (.aload_n 0, 1) := by decide +kernel
theorem dX5_isNumber_18 : decode cX5_isNumber 18 = .ok (.getfield 211, 3) := by decide +kernel
theorem dX5_isNumber_21 : decode cX5_isNumber 21 = .ok (.iaload, 1) := by decide +kernel
theorem dX5_isNumber_22 : decode cX5_isNumber 22 = .ok (.bipush 48, 2) := by decide +kernel
theorem dX5_isNumber_24 : decode cX5_isNumber 24 = .ok (.isub, 1) := by decide +kernel
theorem dX5_isNumber_25 : decode cX5_isNumber 25 = .ok (.istore_n 2, 1) := by decide +kernel
theorem dX5_isNumber_26 : decode cX5_isNumber 26 = .ok (.aload_n 0, 1) := by decide +kernel
theorem dX5_isNumber_27 : decode cX5_isNumber 27 = .ok (.dup, 1) := by decide +kernel
theorem dX5_isNumber_28 : decode cX5_isNumber 28 = .ok (.getfield 211, 3) := by decide +kernel
theorem dX5_isNumber_31 : decode cX5_isNumber 31 = .ok (.iconst 1, 1) := by decide +kernel
theorem dX5_isNumber_32 : decode cX5_isNumber 32 = .ok (.iadd, 1) := by decide +kernel
theorem dX5_isNumber_33 : decode cX5_isNumber 33 = .ok (.putfield 211, 3) := by decide +kernel
theorem dX5_isNumber_36 : decode cX5_isNumber 36 = .ok (.iload_n 2, 1) := by decide +kernel
theorem dX5_isNumber_37 : decode cX5_isNumber 37 = .ok (.ifCond .le 51, 3) := by decide +kernel
theorem dX5_isNumber_40 : decode cX5_isNumber 40 = .ok (.iload_n 2, 1) := by decide +kernel
theorem dX5_isNumber_41 : decode cX5_isNumber 41 = .ok (.bipush 100, 2) := by decide +kernel
theorem dX5_isNumber_43 : decode cX5_isNumber 43 = .ok (.if_icmp .ge 45, 3) := by decide +kernel
theorem dX5_isNumber_46 : decode cX5_isNumber 46 = .ok (.aload_n 0, 1) := by decide +kernel
theorem dX5_isNumber_47 : decode cX5_isNumber 47 = .ok (.bipush 48, 2) := by decide +kernel
theorem dX5_isNumber_49 : decode cX5_isNumber 49 = .ok (.bipush 57, 2) := by decide +kernel
theorem dX5_isNumber_51 : decode cX5_isNumber 51 = .ok (.invokevirtual 214, 3) := by decide +kernel
theorem dX5_isNumber_54 : decode cX5_isNumber 54 = .ok (.ifCond .eq 34, 3) := by decide +kernel
theorem dX5_isNumber_57 : decode cX5_isNumber 57 = .ok (.bipush 10, 2) := by decide +kernel
theorem dX5_isNumber_59 : decode cX5_isNumber 59 = .ok (.iload_n 2, 1) := by decide +kernel
theorem dX5_isNumber_60 : decode cX5_isNumber 60 = .ok (.imul, 1) := by decide +kernel
theorem dX5_isNumber_61 : decode cX5_isNumber 61 = .ok (.aload_n 0, 1) := by decide +kernel
theorem dX5_isNumber_62 : decode cX5_isNumber 62 = .ok (.getfield 26, 3) := by decide +kernel
theorem dX5_isNumber_65 : decode cX5_isNumber 65 = .ok (.aload_n 0, 1) := by decide +kernel
theorem dX5_isNumber_66 : decode cX5_isNumber 66 = .ok (.getfield 211, 3) := by decide +kernel
theorem dX5_isNumber_69 : decode cX5_isNumber 69 = .ok (.iaload, 1) := by decide +kernel
theorem dX5_isNumber_70 : decode cX5_isNumber 70 = .ok (.iadd, 1) := by decide +kernel
theorem dX5_isNumber_71 : decode cX5_isNumber 71 = .ok (.bipush 48, 2) := by decide +kernel
theorem dX5_isNumber_73 : decode cX5_isNumber 73 = .ok (.isub, 1) := by decide +kernel
theorem dX5_isNumber_74 : decode cX5_isNumber 74 = .ok (.istore_n 2, 1) := by decide +kernel
theorem dX5_isNumber_75 : decode cX5_isNumber 75 = .ok (.aload_n 0, 1) := by decide +kernel
theorem dX5_isNumber_76 : decode cX5_isNumber 76 = .ok (.dup, 1) := by decide +kernel
theorem dX5_isNumber_77 : decode cX5_isNumber 77 = .ok (.getfield 211, 3) := by decide +kernel
theorem dX5_isNumber_80 : decode cX5_isNumber 80 = .ok (.iconst 1, 1) := by decide +kernel
theorem dX5_isNumber_81 : decode cX5_isNumber 81 = .ok (.iadd, 1) := by decide +kernel
theorem dX5_isNumber_82 : decode cX5_isNumber 82 = .ok (.putfield 211, 3) := by decide +kernel
theorem dX5_isNumber_85 : decode cX5_isNumber 85 = .ok (.goto (-49), 3) := by decide +kernel
theorem dX5_isNumber_88 : decode cX5_isNumber 88 = .ok (.aload_n 0, 1) := by decide +kernel
theorem dX5_isNumber_89 : decode cX5_isNumber 89 = .ok (.getfield 30, 3) := by decide +kernel
theorem dX5_isNumber_92 : decode cX5_isNumber 92 = .ok (.iconst 4, 1) := by decide +kernel
theorem dX5_isNumber_93 : decode cX5_isNumber 93 = .ok (.aload_n 0, 1) := by decide +kernel
theorem dX5_isNumber_94 : decode cX5_isNumber 94 = .ok (.getfield 217, 3) := by decide +kernel
theorem dX5_isNumber_97 : decode cX5_isNumber 97 = .ok (.imul, 1) := by decide +kernel
theorem dX5_isNumber_98 : decode cX5_isNumber 98 = .ok (.iload_n 1, 1) := by decide +kernel
theorem dX5_isNumber_99 : decode cX5_isNumber 99 = .ok (.iadd, 1) := by decide +kernel
theorem dX5_isNumber_100 : decode cX5_isNumber 100 = .ok (.iload_n 2, 1) := by decide +kernel
theorem dX5_isNumber_101 : decode cX5_isNumber 101 = .ok (.iastore, 1) := by decide +kernel
theorem dX5_isNumber_102 : decode cX5_isNumber 102 = .ok (.iconst 1, 1) := by decide +kernel
theorem dX5_isNumber_103 : decode cX5_isNumber 103 = .ok (.ireturn, 1) := by decide +kernel
theorem dX5_isOrder_0 : decode cX5_isOrder 0 = .ok (.aload_n 0, 1) := by decide +kernel
theorem dX5_isOrder_1 : decode cX5_isOrder 1 = .ok (.bipush 115, 2) := by decide +kernel
theorem dX5_isOrder_3 : decode cX5_isOrder 3 = .ok (.bipush 115, 2) := by decide +kernel
theorem dX5_isOrder_5 : decode cX5_isOrder 5 = .ok (.invokevirtual 214, 3) := by decide +kernel
theorem dX5_isOrder_8 : decode cX5_isOrder 8 = .ok (.ifCond .ne 49, 3) := by decide +kernel
theorem dX5_isOrder_11 : decode cX5_isOrder 11 = .ok (.aload_n 0, 1) := by decide +kernel
theorem dX5_isOrder_12 : decode cX5_isOrder 12 = .ok (.bipush 103, 2) := by decide +kernel
theorem dX5_isOrder_14 : decode cX5_isOrder 14 = .ok (.bipush 103, 2) := by decide +kernel
theorem dX5_isOrder_16 : decode cX5_isOrder 16 = .ok (.invokevirtual 214, 3) := by decide +kernel
theorem dX5_isOrder_19 : decode cX5_isOrder 19 = .ok (.ifCond .ne 38, 3) := by decide +kernel
theorem dX5_isOrder_22 : decode cX5_isOrder 22 = .ok (.aload_n 0, 1) := by decide +kernel
theorem dX5_isOrder_23 : decode cX5_isOrder 23 = .ok (.bipush 119, 2) := by decide +kernel
theorem dX5_isOrder_25 : decode cX5_isOrder 25 = .ok (.bipush 119, 2) := by decide +kernel
theorem dX5_isOrder_27 : decode cX5_isOrder 27 = .ok (.invokevirtual 214, 3) := by decide +kernel
theorem dX5_isOrder_30 : decode cX5_isOrder 30 = .ok (.ifCond .ne 27, 3) := by decide +kernel
theorem dX5_isOrder_33 : decode cX5_isOrder 33 = .ok (.aload_n 0, 1) := by decide +kernel
theorem dX5_isOrder_34 : decode cX5_isOrder 34 = .ok (.bipush 118, 2) := by decide +kernel
theorem dX5_isOrder_36 : decode cX5_isOrder 36 = .ok (.bipush 118, 2) := by decide +kernel
theorem dX5_isOrder_38 : decode cX5_isOrder 38 = .ok (.invokevirtual 214, 3) := by decide +kernel
theorem dX5_isOrder_41 : decode cX5_isOrder 41 = .ok (.ifCond .ne 16, 3) := by decide +kernel
theorem dX5_isOrder_44 : decode cX5_isOrder 44 = .ok (.aload_n 0, 1) := by decide +kernel
theorem dX5_isOrder_45 : decode cX5_isOrder 45 = .ok (.bipush 116, 2) := by decide +kernel
theorem dX5_isOrder_47 : decode cX5_isOrder 47 = .ok (.bipush 116, 2) := by decide +kernel
theorem dX5_isOrder_49 : decode cX5_isOrder 49 = .ok (.invokevirtual 214, 3) := by decide +kernel
theorem dX5_isOrder_52 : decode cX5_isOrder 52 = .ok (.ifCond .ne 5, 3) := by decide +kernel
theorem dX5_isOrder_55 : decode cX5_isOrder 55 = .ok (.iconst 0, 1) := by decide +kernel
theorem dX5_isOrder_56 : decode cX5_isOrder 56 = .ok (.ireturn, 1) := by decide +kernel
theorem dX5_isOrder_57 : decode cX5_isOrder 57 = .ok (.aload_n 0, 1) := by decide +kernel
theorem dX5_isOrder_58 : decode cX5_isOrder 58 = .ok (.getfield 26, 3) := by decide +kernel
theorem dX5_isOrder_61 : decode cX5_isOrder 61 = .ok (.aload_n 0, 1) := by decide +kernel
theorem dX5_isOrder_62 : decode cX5_isOrder 62 = .ok (.getfield 211, 3) := by decide +kernel
theorem dX5_isOrder_65 : decode cX5_isOrder 65 = .ok (.iaload, 1) := by decide +kernel
theorem dX5_isOrder_66 : decode cX5_isOrder 66 = .ok (.istore_n 1, 1) := by decide +kernel
theorem dX5_isOrder_67 : decode cX5_isOrder 67 = .ok (.aload_n 0, 1) := by decide +kernel
theorem dX5_isOrder_68 : decode cX5_isOrder 68 = .ok (.getfield 30, 3) := by decide +kernel
theorem dX5_isOrder_71 : decode cX5_isOrder 71 = .ok (.iconst 4, 1) := by decide +kernel
theorem dX5_isOrder_72 : decode cX5_isOrder 72 = .ok (.aload_n 0, 1) := by decide +kernel
theorem dX5_isOrder_73 : decode cX5_isOrder 73 = .ok (.getfield 217, 3) := by decide +kernel
theorem dX5_isOrder_76 : decode cX5_isOrder 76 = .ok (.imul, 1) := by decide +kernel
theorem dX5_isOrder_77 : decode cX5_isOrder 77 = .ok (.iload_n 1, 1) := by decide +kernel
theorem dX5_isOrder_78 : decode cX5_isOrder 78 = .ok (.iastore, 1) := by decide +kernel
theorem dX5_isOrder_79 : decode cX5_isOrder 79 = .ok (.aload_n 0, 1) := by decide +kernel
theorem dX5_isOrder_80 : decode cX5_isOrder 80 = .ok (.dup, 1) := by decide +kernel
theorem dX5_isOrder_81 : decode cX5_isOrder 81 = .ok (.getfield 211, 3) := by decide +kernel
theorem dX5_isOrder_84 : decode cX5_isOrder 84 = .ok (.iconst 1, 1) := by decide +kernel
theorem dX5_isOrder_85 : decode cX5_isOrder 85 = .ok (.iadd, 1) := by decide +kernel
theorem dX5_isOrder_86 : decode cX5_isOrder 86 = .ok (.putfield 211, 3) := by decide +kernel
theorem dX5_isOrder_89 : decode cX5_isOrder 89 = .ok (.iload_n 1, 1) := by decide +kernel
theorem dX5_isOrder_90 : decode cX5_isOrder 90 = .ok (.bipush 116, 2) := by decide +kernel
theorem dX5_isOrder_92 : decode cX5_isOrder 92 = .ok (.if_icmp .ne 9, 3) := by decide +kernel
theorem dX5_isOrder_95 : decode cX5_isOrder 95 = .ok (.aload_n 0, 1) := by decide +kernel
theorem dX5_isOrder_96 : decode cX5_isOrder 96 = .ok (.iconst 1, 1) := by decide +kernel
theorem dX5_isOrder_97 : decode cX5_isOrder 97 = .ok (.invokevirtual 220, 3) := by decide +kernel
theorem dX5_isOrder_100 : decode cX5_isOrder 100 = .ok (.ireturn, 1) := by decide +kernel
theorem dX5_isOrder_101 : decode cX5_isOrder 101 = .ok (.aload_n 0, 1) := by decide +kernel
theorem dX5_isOrder_102 : decode cX5_isOrder 102 = .ok (.bipush 48, 2) := by decide +kernel
theorem dX5_isOrder_104 : decode cX5_isOrder 104 = .ok (.bipush 51, 2) := by decide +kernel
theorem dX5_isOrder_106 : decode cX5_isOrder 106 = .ok (.invokevirtual 214, 3) := by decide +kernel
theorem dX5_isOrder_109 : decode cX5_isOrder 109 = .ok (.ifCond .ne 5, 3) := by decide +kernel
theorem dX5_isOrder_112 : decode cX5_isOrder 112 = .ok (.iconst 0, 1) := by decide +kernel
theorem dX5_isOrder_113 : decode cX5_isOrder 113 = .ok (.ireturn, 1) := by decide +kernel
theorem dX5_isOrder_114 : decode cX5_isOrder 114 = .ok (.aload_n 0, 1) := by decide +kernel
theorem dX5_isOrder_115 : decode cX5_isOrder 115 = .ok (.getfield 30, 3) := by decide +kernel
theorem dX5_isOrder_118 : decode cX5_isOrder 118 = .ok (.iconst 4, 1) := by decide +kernel
theorem dX5_isOrder_119 : decode cX5_isOrder 119 = .ok (.aload_n 0, 1) := by decide +kernel
theorem dX5_isOrder_120 : decode cX5_isOrder 120 = .ok (.getfield 217, 3) := by decide +kernel
theorem dX5_isOrder_123 : decode cX5_isOrder 123 = .ok (.imul, 1) := by decide +kernel
theorem dX5_isOrder_124 : decode cX5_isOrder 124 = .ok (.iconst 1, 1) := by decide +kernel
theorem dX5_isOrder_125 : decode cX5_isOrder 125 = .ok (.iadd, 1) := by decide +kernel
theorem dX5_isOrder_126 : decode cX5_isOrder 126 = .ok (.aload_n 0, 1) := by decide +kernel
theorem dX5_isOrder_127 : decode cX5_isOrder 127 = .ok (.getfield 26, 3) := by decide +kernel
theorem dX5_isOrder_130 : decode cX5_isOrder 130 = .ok (.aload_n 0, 1) := by decide +kernel
theorem dX5_isOrder_131 : decode cX5_isOrder 131 = .ok (.getfield 211, 3) := by decide +kernel
theorem dX5_isOrder_134 : decode cX5_isOrder 134 = .ok (.iaload, 1) := by decide +kernel
theorem dX5_isOrder_135 : decode cX5_isOrder 135 = .ok (.bipush 48, 2) := by decide +kernel
theorem dX5_isOrder_137 : decode cX5_isOrder 137 = .ok (.isub, 1) := by decide +kernel
theorem dX5_isOrder_138 : decode cX5_isOrder 138 = .ok (.iastore, 1) := by decide +kernel
theorem dX5_isOrder_139 : decode cX5_isOrder 139 = .ok (.aload_n 0, 1) := by decide +kernel
theorem dX5_isOrder_140 : decode cX5_isOrder 140 = .ok (.dup, 1) := by decide +kernel
theorem dX5_isOrder_141 : decode cX5_isOrder 141 = .ok (.getfield 211, 3) := by decide +kernel
theorem dX5_isOrder_144 : decode cX5_isOrder 144 = .ok (.iconst 1, 1) := by decide +kernel
theorem dX5_isOrder_145 : decode cX5_isOrder 145 = .ok (.iadd, 1) := by decide +kernel
theorem dX5_isOrder_146 : decode cX5_isOrder 146 = .ok (.putfield 211, 3) := by decide +kernel
theorem dX5_isOrder_149 : decode cX5_isOrder 149 = .ok (.iload_n 1, 1) := by decide +kernel
theorem dX5_isOrder_150 : decode cX5_isOrder 150 = .ok (.bipush 118, 2) := by decide +kernel
theorem dX5_isOrder_152 : decode cX5_isOrder 152 = .ok (.if_icmp .ne 43, 3) := by decide +kernel
theorem dX5_isOrder_155 : decode cX5_isOrder 155 = .ok (.aload_n 0, 1) := by decide +kernel
theorem dX5_isOrder_156 : decode cX5_isOrder 156 = .ok (.bipush 47, 2) := by decide +kernel
theorem dX5_isOrder_158 : decode cX5_isOrder 158 = .ok (.invokevirtual 223, 3) := by decide +kernel
theorem dX5_isOrder_161 : decode cX5_isOrder 161 = .ok (.ifCond .eq 32, 3) := by decide +kernel
theorem dX5_isOrder_164 : decode cX5_isOrder 164 = .ok (.aload_n 0, 1) := by decide +kernel
theorem dX5_isOrder_165 : decode cX5_isOrder 165 = .ok (.iconst 2, 1) := by decide +kernel
theorem dX5_isOrder_166 : decode cX5_isOrder 166 = .ok (.invokevirtual 220, 3) := by decide +kernel
theorem dX5_isOrder_169 : decode cX5_isOrder 169 = .ok (.ifCond .eq 24, 3) := by decide +kernel
theorem dX5_isOrder_172 : decode cX5_isOrder 172 = .ok (.aload_n 0, 1) := by decide +kernel
theorem dX5_isOrder_173 : decode cX5_isOrder 173 = .ok (.bipush 42, 2) := by decide +kernel
theorem dX5_isOrder_175 : decode cX5_isOrder 175 = .ok (.invokevirtual 223, 3) := by decide +kernel
theorem dX5_isOrder_178 : decode cX5_isOrder 178 = .ok (.ifCond .eq 15, 3) := by decide +kernel
theorem dX5_isOrder_181 : decode cX5_isOrder 181 = .ok (.aload_n 0, 1) := by decide +kernel
theorem dX5_isOrder_182 : decode cX5_isOrder 182 = .ok (.iconst 3, 1) := by decide +kernel
theorem dX5_isOrder_183 : decode cX5_isOrder 183 = .ok (.invokevirtual 220, 3) := by decide +kernel
theorem dX5_isOrder_186 : decode cX5_isOrder 186 = .ok (.ifCond .eq 7, 3) := by decide +kernel
theorem dX5_isOrder_189 : decode cX5_isOrder 189 = .ok (.iconst 1, 1) := by decide +kernel
theorem dX5_isOrder_190 : decode cX5_isOrder 190 = .ok (.goto 4, 3) := by decide +kernel
theorem dX5_isOrder_193 : decode cX5_isOrder 193 = .ok (.iconst 0, 1) := by decide +kernel
theorem dX5_isOrder_194 : decode cX5_isOrder 194 = .ok (.ireturn, 1) := by decide +kernel
theorem dX5_isOrder_195 : decode cX5_isOrder 195 = .ok (.aload_n 0, 1) := by decide +kernel
theorem dX5_isOrder_196 : decode cX5_isOrder 196 = .ok (.iload_n 1, 1) := by decide +kernel
theorem dX5_isOrder_197 : decode cX5_isOrder 197 = .ok (.bipush 119, 2) := by decide +kernel
theorem dX5_isOrder_199 : decode cX5_isOrder 199 = .ok (.if_icmp .ne 8, 3) := by decide +kernel
theorem dX5_isOrder_202 : decode cX5_isOrder 202 = .ok (.bipush 42, 2) := by decide +kernel
theorem dX5_isOrder_204 : decode cX5_isOrder 204 = .ok (.goto 5, 3) := by decide +kernel
theorem dX5_isOrder_207 : decode cX5_isOrder 207 = .ok (.bipush 64, 2) := by decide +kernel
theorem dX5_isOrder_209 : decode cX5_isOrder 209 = .ok (.invokevirtual 223, 3) := by decide +kernel
theorem dX5_isOrder_212 : decode cX5_isOrder 212 = .ok (.ifCond .eq 15, 3) := by decide +kernel
theorem dX5_isOrder_215 : decode cX5_isOrder 215 = .ok (.aload_n 0, 1) := by decide +kernel
theorem dX5_isOrder_216 : decode cX5_isOrder 216 = .ok (.iconst 2, 1) := by decide +kernel
theorem dX5_isOrder_217 : decode cX5_isOrder 217 = .ok (.invokevirtual 220, 3) := by decide +kernel
theorem dX5_isOrder_220 : decode cX5_isOrder 220 = .ok (.ifCond .eq 7, 3) := by decide +kernel
theorem dX5_isOrder_223 : decode cX5_isOrder 223 = .ok (.iconst 1, 1) := by decide +kernel
theorem dX5_isOrder_224 : decode cX5_isOrder 224 = .ok (.goto 4, 3) := by decide +kernel
theorem dX5_isOrder_227 : decode cX5_isOrder 227 = .ok (.iconst 0, 1) := by decide +kernel
theorem dX5_isOrder_228 : decode cX5_isOrder 228 = .ok (.ireturn, 1) := by decide +kernel
theorem dX5_isText_0 : decode cX5_isText 0 = .ok (.aload_n 0, 1) := by decide +kernel
theorem dX5_isText_1 : decode cX5_isText 1 = .ok (.iconst 0, 1) := by decide +kernel
theorem dX5_isText_2 : decode cX5_isText 2 = .ok (.putfield 211, 3) := by decide +kernel
theorem dX5_isText_5 : decode cX5_isText 5 = .ok (.aload_n 0, 1) := by decide +kernel
theorem dX5_isText_6 : decode cX5_isText 6 = .ok (.iconst 0, 1) := by decide +kernel
theorem dX5_isText_7 : decode cX5_isText 7 = .ok (.putfield 217, 3) := by decide +kernel
theorem dX5_isText_10 : decode cX5_isText 10 = .ok (.iconst 1, 1) := by decide +kernel
theorem dX5_isText_11 : decode cX5_isText 11 = .ok (.istore_n 1, 1) := by decide +kernel
theorem dX5_isText_12 : decode cX5_isText 12 = .ok (.iload_n 1, 1) := by decide +kernel
theorem dX5_isText_13 : decode cX5_isText 13 = .ok (.ifCond .eq 32, 3) := by decide +kernel
theorem dX5_isText_16 : decode cX5_isText 16 = .ok (.aload_n 0, 1) := by decide +kernel
theorem dX5_isText_17 : decode cX5_isText 17 = .ok (.invokevirtual 226, 3) := by decide +kernel
theorem dX5_isText_20 : decode cX5_isText 20 = .ok (.ifCond .ne 5, 3) := by decide +kernel
theorem dX5_isText_23 : decode cX5_isText 23 = .ok (.iconst 0, 1) := by decide +kernel
theorem dX5_isText_24 : decode cX5_isText 24 = .ok (.ireturn, 1) := by decide +kernel
theorem dX5_isText_25 : decode cX5_isText 25 = .ok (.aload_n 0, 1) := by decide +kernel
theorem dX5_isText_26 : decode cX5_isText 26 = .ok (.dup, 1) := by decide +kernel
theorem dX5_isText_27 : decode cX5_isText 27 = .ok (.getfield 217, 3) := by decide +kernel
theorem dX5_isText_30 : decode cX5_isText 30 = .ok (.iconst 1, 1) := by decide +kernel
theorem dX5_isText_31 : decode cX5_isText 31 = .ok (.iadd, 1) := by decide +kernel
theorem dX5_isText_32 : decode cX5_isText 32 = .ok (.putfield 217, 3) := by decide +kernel
theorem dX5_isText_35 : decode cX5_isText 35 = .ok (.aload_n 0, 1) := by decide +kernel
theorem dX5_isText_36 : decode cX5_isText 36 = .ok (.bipush 59, 2) := by decide +kernel
theorem dX5_isText_38 : decode cX5_isText 38 = .ok (.invokevirtual 223, 3) := by decide +kernel
theorem dX5_isText_41 : decode cX5_isText 41 = .ok (.istore_n 1, 1) := by decide +kernel
theorem dX5_isText_42 : decode cX5_isText 42 = .ok (.goto (-30), 3) := by decide +kernel
theorem dX5_isText_45 : decode cX5_isText 45 = .ok (.aload_n 0, 1) := by decide +kernel
theorem dX5_isText_46 : decode cX5_isText 46 = .ok (.getfield 211, 3) := by decide +kernel
theorem dX5_isText_49 : decode cX5_isText 49 = .ok (.aload_n 0, 1) := by decide +kernel
theorem dX5_isText_50 : decode cX5_isText 50 = .ok (.getfield 173, 3) := by decide +kernel
theorem dX5_isText_53 : decode cX5_isText 53 = .ok (.if_icmp .ne 7, 3) := by decide +kernel
theorem dX5_isText_56 : decode cX5_isText 56 = .ok (.iconst 1, 1) := by decide +kernel
theorem dX5_isText_57 : decode cX5_isText 57 = .ok (.goto 4, 3) := by decide +kernel
theorem dX5_isText_60 : decode cX5_isText 60 = .ok (.iconst 0, 1) := by decide +kernel
theorem dX5_isText_61 : decode cX5_isText 61 = .ok (.ireturn, 1) := by decide +kernel
theorem dX5_fault_0 : decode cX5_fault 0 = .ok (.aload_n 0, 1) := by decide +kernel
theorem dX5_fault_1 : decode cX5_fault 1 = .ok (.invokevirtual 230, 3) := by decide +kernel
theorem dX5_fault_4 : decode cX5_fault 4 = .ok (.ifCond .eq 8, 3) := by decide +kernel
theorem dX5_fault_7 : decode cX5_fault 7 = .ok (.bipush (-6), 2) := by decide +kernel
theorem dX5_fault_9 : decode cX5_fault 9 = .ok (.goto 7, 3) := by decide +kernel
theorem dX5_fault_12 : decode cX5_fault 12 = .ok (.aload_n 0, 1) := by decide +kernel
theorem dX5_fault_13 : decode cX5_fault 13 = .ok (.getfield 211, 3) := by decide +kernel
theorem dX5_fault_16 : decode cX5_fault 16 = .ok (.ireturn, 1) := by decide +kernel
theorem dX5_does_0 : decode cX5_does 0 = .ok (.aload_n 0, 1) := by decide +kernel
theorem dX5_does_1 : decode cX5_does 1 = .ok (.getfield 30, 3) := by decide +kernel
theorem dX5_does_4 : decode cX5_does 4 = .ok (.iconst 4, 1) := by decide +kernel
theorem dX5_does_5 : decode cX5_does 5 = .ok (.iload_n 1, 1) := by decide +kernel
theorem dX5_does_6 : decode cX5_does 6 = .ok (.imul, 1) := by decide +kernel
theorem dX5_does_7 : decode cX5_does 7 = .ok (.iaload, 1) := by decide +kernel
theorem dX5_does_8 : decode cX5_does 8 = .ok (.istore_n 2, 1) := by decide +kernel
theorem dX5_does_9 : decode cX5_does 9 = .ok (.aload_n 0, 1) := by decide +kernel
theorem dX5_does_10 : decode cX5_does 10 = .ok (.getfield 30, 3) := by decide +kernel
theorem dX5_does_13 : decode cX5_does 13 = .ok (.iconst 4, 1) := by decide +kernel
theorem dX5_does_14 : decode cX5_does 14 = .ok (.iload_n 1, 1) := by decide +kernel
theorem dX5_does_15 : decode cX5_does 15 = .ok (.imul, 1) := by decide +kernel
theorem dX5_does_16 : decode cX5_does 16 = .ok (.iconst 1, 1) := by decide +kernel
theorem dX5_does_17 : decode cX5_does 17 = .ok (.iadd, 1) := by decide +kernel
theorem dX5_does_18 : decode cX5_does 18 = .ok (.iaload, 1) := by decide +kernel
theorem dX5_does_19 : decode cX5_does 19 = .ok (.istore_n 3, 1) := by decide +kernel
theorem dX5_does_20 : decode cX5_does 20 = .ok (.aload_n 0, 1) := by decide +kernel
theorem dX5_does_21 : decode cX5_does 21 = .ok (.getfield 30, 3) := by decide +kernel
theorem dX5_does_24 : decode cX5_does 24 = .ok (.iconst 4, 1) := by decide +kernel
theorem dX5_does_25 : decode cX5_does 25 = .ok (.iload_n 1, 1) := by decide +kernel
theorem dX5_does_26 : decode cX5_does 26 = .ok (.imul, 1) := by decide +kernel
theorem dX5_does_27 : decode cX5_does 27 = .ok (.iconst 2, 1) := by decide +kernel
theorem dX5_does_28 : decode cX5_does 28 = .ok (.iadd, 1) := by decide +kernel
theorem dX5_does_29 : decode cX5_does 29 = .ok (.iaload, 1) := by decide +kernel
theorem dX5_does_30 : decode cX5_does 30 = .ok (.istore 4, 2) := by decide +kernel
theorem dX5_does_32 : decode cX5_does 32 = .ok (.aload_n 0, 1) := by decide +kernel
theorem dX5_does_33 : decode cX5_does 33 = .ok (.getfield 30, 3) := by decide +kernel
theorem dX5_does_36 : decode cX5_does 36 = .ok (.iconst 4, 1) := by decide +kernel
theorem dX5_does_37 : decode cX5_does 37 = .ok (.iload_n 1, 1) := by decide +kernel
theorem dX5_does_38 : decode cX5_does 38 = .ok (.imul, 1) := by decide +kernel
theorem dX5_does_39 : decode cX5_does 39 = .ok (.iconst 3, 1) := by decide +kernel
theorem dX5_does_40 : decode cX5_does 40 = .ok (.iadd, 1) := by decide +kernel
theorem dX5_does_41 : decode cX5_does 41 = .ok (.iaload, 1) := by decide +kernel
theorem dX5_does_42 : decode cX5_does 42 = .ok (.istore 5, 2) := by decide +kernel
theorem dX5_does_44 : decode cX5_does 44 = .ok (.iload_n 2, 1) := by decide +kernel
theorem dX5_does_45 : decode cX5_does 45 = .ok (.bipush 116, 2) := by decide +kernel
theorem dX5_does_47 : decode cX5_does 47 = .ok (.if_icmp .ne 19, 3) := by decide +kernel
theorem dX5_does_50 : decode cX5_does 50 = .ok (.iload_n 3, 1) := by decide +kernel
theorem dX5_does_51 : decode cX5_does 51 = .ok (.invokestatic 148, 3) := by decide +kernel
theorem dX5_does_54 : decode cX5_does 54 = .ok (.ifCond .eq 7, 3) := by decide +kernel
theorem dX5_does_57 : decode cX5_does 57 = .ok (.iconst 0, 1) := by decide +kernel
theorem dX5_does_58 : decode cX5_does 58 = .ok (.goto 60, 3) := by decide +kernel
theorem dX5_does_61 : decode cX5_does 61 = .ok (.bipush (-2), 2) := by decide +kernel
theorem dX5_does_63 : decode cX5_does 63 = .ok (.goto 55, 3) := by decide +kernel
theorem dX5_does_66 : decode cX5_does 66 = .ok (.iload_n 2, 1) := by decide +kernel
theorem dX5_does_67 : decode cX5_does 67 = .ok (.bipush 118, 2) := by decide +kernel
theorem dX5_does_69 : decode cX5_does 69 = .ok (.if_icmp .ne 15, 3) := by decide +kernel
theorem dX5_does_72 : decode cX5_does 72 = .ok (.aload_n 0, 1) := by decide +kernel
theorem dX5_does_73 : decode cX5_does 73 = .ok (.iload_n 3, 1) := by decide +kernel
theorem dX5_does_74 : decode cX5_does 74 = .ok (.iload 4, 2) := by decide +kernel
theorem dX5_does_76 : decode cX5_does 76 = .ok (.iload 5, 2) := by decide +kernel
theorem dX5_does_78 : decode cX5_does 78 = .ok (.invokevirtual 111, 3) := by decide +kernel
theorem dX5_does_81 : decode cX5_does 81 = .ok (.goto 37, 3) := by decide +kernel
theorem dX5_does_84 : decode cX5_does 84 = .ok (.iload_n 2, 1) := by decide +kernel
theorem dX5_does_85 : decode cX5_does 85 = .ok (.bipush 119, 2) := by decide +kernel
theorem dX5_does_87 : decode cX5_does 87 = .ok (.if_icmp .ne 13, 3) := by decide +kernel
theorem dX5_does_90 : decode cX5_does 90 = .ok (.aload_n 0, 1) := by decide +kernel
theorem dX5_does_91 : decode cX5_does 91 = .ok (.iload_n 3, 1) := by decide +kernel
theorem dX5_does_92 : decode cX5_does 92 = .ok (.iload 4, 2) := by decide +kernel
theorem dX5_does_94 : decode cX5_does 94 = .ok (.invokevirtual 122, 3) := by decide +kernel
theorem dX5_does_97 : decode cX5_does 97 = .ok (.goto 21, 3) := by decide +kernel
theorem dX5_does_100 : decode cX5_does 100 = .ok (.aload_n 0, 1) := by decide +kernel
theorem dX5_does_101 : decode cX5_does 101 = .ok (.iload_n 3, 1) := by decide +kernel
theorem dX5_does_102 : decode cX5_does 102 = .ok (.iload 4, 2) := by decide +kernel
theorem dX5_does_104 : decode cX5_does 104 = .ok (.iload_n 2, 1) := by decide +kernel
theorem dX5_does_105 : decode cX5_does 105 = .ok (.bipush 115, 2) := by decide +kernel
theorem dX5_does_107 : decode cX5_does 107 = .ok (.if_icmp .ne 7, 3) := by decide +kernel
theorem dX5_does_110 : decode cX5_does 110 = .ok (.iconst 1, 1) := by decide +kernel
theorem dX5_does_111 : decode cX5_does 111 = .ok (.goto 4, 3) := by decide +kernel
theorem dX5_does_114 : decode cX5_does 114 = .ok (.iconst 0, 1) := by decide +kernel
theorem dX5_does_115 : decode cX5_does 115 = .ok (.invokevirtual 135, 3) := by decide +kernel
theorem dX5_does_118 : decode cX5_does 118 = .ok (.istore 6, 2) := by decide +kernel
theorem dX5_does_120 : decode cX5_does 120 = .ok (.iload 6, 2) := by decide +kernel
theorem dX5_does_122 : decode cX5_does 122 = .ok (.ifCond .eq 5, 3) := by decide +kernel
theorem dX5_does_125 : decode cX5_does 125 = .ok (.iconst 0, 1) := by decide +kernel
theorem dX5_does_126 : decode cX5_does 126 = .ok (.ireturn, 1) := by decide +kernel
theorem dX5_does_127 : decode cX5_does 127 = .ok (.iload_n 2, 1) := by decide +kernel
theorem dX5_does_128 : decode cX5_does 128 = .ok (.bipush 116, 2) := by decide +kernel
theorem dX5_does_130 : decode cX5_does 130 = .ok (.if_icmp .ne 11, 3) := by decide +kernel
theorem dX5_does_133 : decode cX5_does 133 = .ok (.aload_n 0, 1) := by decide +kernel
theorem dX5_does_134 : decode cX5_does 134 = .ok (.iload_n 3, 1) := by decide +kernel
theorem dX5_does_135 : decode cX5_does 135 = .ok (.invokevirtual 151, 3) := by decide +kernel
theorem dX5_does_138 : decode cX5_does 138 = .ok (.goto 58, 3) := by decide +kernel
theorem dX5_does_141 : decode cX5_does 141 = .ok (.iload_n 2, 1) := by decide +kernel
theorem dX5_does_142 : decode cX5_does 142 = .ok (.bipush 118, 2) := by decide +kernel
theorem dX5_does_144 : decode cX5_does 144 = .ok (.if_icmp .ne 16, 3) := by decide +kernel
theorem dX5_does_147 : decode cX5_does 147 = .ok (.aload_n 0, 1) := by decide +kernel
theorem dX5_does_148 : decode cX5_does 148 = .ok (.iload_n 3, 1) := by decide +kernel
