theorem dX0_init_0 : decode cX0_init 0 = .ok (.aload_n 0, 1) := by decide +kernel
theorem dX0_init_1 : decode cX0_init 1 = .ok (.invokespecial 3, 3) := by decide +kernel
theorem dX0_init_4 : decode cX0_init 4 = .ok (.aload_n 0, 1) := by decide +kernel
theorem dX0_init_5 : decode cX0_init 5 = .ok (.bipush 60, 2) := by decide +kernel
theorem dX0_init_7 : decode cX0_init 7 = .ok (.putfield 9, 3) := by decide +kernel
theorem dX0_init_10 : decode cX0_init 10 = .ok (.aload_n 0, 1) := by decide +kernel
theorem dX0_init_11 : decode cX0_init 11 = .ok (.iconst 1, 1) := by decide +kernel
theorem dX0_init_12 : decode cX0_init 12 = .ok (.putfield 15, 3) := by decide +kernel
theorem dX0_init_15 : decode cX0_init 15 = .ok (.aload_n 0, 1) := by decide +kernel
theorem dX0_init_16 : decode cX0_init 16 = .ok (.bipush 100, 2) := by decide +kernel
theorem dX0_init_18 : decode cX0_init 18 = .ok (.newarray .byte, 2) := by decide +kernel
theorem dX0_init_20 : decode cX0_init 20 = .ok (.putfield 18, 3) := by decide +kernel
theorem dX0_init_23 : decode cX0_init 23 = .ok (.return_, 1) := by decide +kernel
theorem dX0_copyFrom_0 : decode cX0_copyFrom 0 = .ok (.aload_n 0, 1) := by decide +kernel
theorem dX0_copyFrom_1 : decode cX0_copyFrom 1 = .ok (.aload_n 1, 1) := by decide +kernel
theorem dX0_copyFrom_2 : decode cX0_copyFrom 2 = .ok (.getfield 9, 3) := by decide +kernel
theorem dX0_copyFrom_5 : decode cX0_copyFrom 5 = .ok (.putfield 9, 3) := by decide +kernel
theorem dX0_copyFrom_8 : decode cX0_copyFrom 8 = .ok (.aload_n 0, 1) := by decide +kernel
theorem dX0_copyFrom_9 : decode cX0_copyFrom 9 = .ok (.aload_n 1, 1) := by decide +kernel
theorem dX0_copyFrom_10 : decode cX0_copyFrom 10 = .ok (.getfield 22, 3) := by decide +kernel
theorem dX0_copyFrom_13 : decode cX0_copyFrom 13 = .ok (.putfield 22, 3) := by decide +kernel
theorem dX0_copyFrom_16 : decode cX0_copyFrom 16 = .ok (.aload_n 0, 1) := by decide +kernel
theorem dX0_copyFrom_17 : decode cX0_copyFrom 17 = .ok (.aload_n 1, 1) := by decide +kernel
theorem dX0_copyFrom_18 : decode cX0_copyFrom 18 = .ok (.getfield 25, 3) := by decide +kernel
theorem dX0_copyFrom_21 : decode cX0_copyFrom 21 = .ok (.putfield 25, 3) := by decide +kernel
theorem dX0_copyFrom_24 : decode cX0_copyFrom 24 = .ok (.aload_n 0, 1) := by decide +kernel
theorem dX0_copyFrom_25 : decode cX0_copyFrom 25 = .ok (.aload_n 1, 1) := by decide +kernel
theorem dX0_copyFrom_26 : decode cX0_copyFrom 26 = .ok (.getfield 28, 3) := by decide +kernel
theorem dX0_copyFrom_29 : decode cX0_copyFrom 29 = .ok (.putfield 28, 3) := by decide +kernel
theorem dX0_copyFrom_32 : decode cX0_copyFrom 32 = .ok (.aload_n 0, 1) := by decide +kernel
theorem dX0_copyFrom_33 : decode cX0_copyFrom 33 = .ok (.aload_n 1, 1) := by decide +kernel
theorem dX0_copyFrom_34 : decode cX0_copyFrom 34 = .ok (.getfield 31, 3) := by decide +kernel
theorem dX0_copyFrom_37 : decode cX0_copyFrom 37 = .ok (.putfield 31, 3) := by decide +kernel
theorem dX0_copyFrom_40 : decode cX0_copyFrom 40 = .ok (.aload_n 0, 1) := by decide +kernel
theorem dX0_copyFrom_41 : decode cX0_copyFrom 41 = .ok (.aload_n 1, 1) := by decide +kernel
theorem dX0_copyFrom_42 : decode cX0_copyFrom 42 = .ok (.getfield 35, 3) := by decide +kernel
theorem dX0_copyFrom_45 : decode cX0_copyFrom 45 = .ok (.putfield 35, 3) := by decide +kernel
theorem dX0_copyFrom_48 : decode cX0_copyFrom 48 = .ok (.aload_n 0, 1) := by decide +kernel
theorem dX0_copyFrom_49 : decode cX0_copyFrom 49 = .ok (.aload_n 1, 1) := by decide +kernel
theorem dX0_copyFrom_50 : decode cX0_copyFrom 50 = .ok (.getfield 38, 3) := by decide +kernel
theorem dX0_copyFrom_53 : decode cX0_copyFrom 53 = .ok (.putfield 38, 3) := by decide +kernel
theorem dX0_copyFrom_56 : decode cX0_copyFrom 56 = .ok (.aload_n 0, 1) := by decide +kernel
theorem dX0_copyFrom_57 : decode cX0_copyFrom 57 = .ok (.aload_n 1, 1) := by decide +kernel
theorem dX0_copyFrom_58 : decode cX0_copyFrom 58 = .ok (.getfield 41, 3) := by decide +kernel
theorem dX0_copyFrom_61 : decode cX0_copyFrom 61 = .ok (.putfield 41, 3) := by decide +kernel
theorem dX0_copyFrom_64 : decode cX0_copyFrom 64 = .ok (.aload_n 0, 1) := by decide +kernel
theorem dX0_copyFrom_65 : decode cX0_copyFrom 65 = .ok (.aload_n 1, 1) := by decide +kernel
theorem dX0_copyFrom_66 : decode cX0_copyFrom 66 = .ok (.getfield 15, 3) := by decide +kernel
theorem dX0_copyFrom_69 : decode cX0_copyFrom 69 = .ok (.putfield 15, 3) := by decide +kernel
theorem dX0_copyFrom_72 : decode cX0_copyFrom 72 = .ok (.aload_n 0, 1) := by decide +kernel
theorem dX0_copyFrom_73 : decode cX0_copyFrom 73 = .ok (.aload_n 1, 1) := by decide +kernel
theorem dX0_copyFrom_74 : decode cX0_copyFrom 74 = .ok (.getfield 44, 3) := by decide +kernel
theorem dX0_copyFrom_77 : decode cX0_copyFrom 77 = .ok (.putfield 44, 3) := by decide +kernel
theorem dX0_copyFrom_80 : decode cX0_copyFrom 80 = .ok (.aload_n 0, 1) := by decide +kernel
theorem dX0_copyFrom_81 : decode cX0_copyFrom 81 = .ok (.aload_n 1, 1) := by decide +kernel
theorem dX0_copyFrom_82 : decode cX0_copyFrom 82 = .ok (.getfield 47, 3) := by decide +kernel
theorem dX0_copyFrom_85 : decode cX0_copyFrom 85 = .ok (.putfield 47, 3) := by decide +kernel
theorem dX0_copyFrom_88 : decode cX0_copyFrom 88 = .ok (.aload_n 1, 1) := by decide +kernel
theorem dX0_copyFrom_89 : decode cX0_copyFrom 89 = .ok (.getfield 18, 3) := by decide +kernel
theorem dX0_copyFrom_92 : decode cX0_copyFrom 92 = .ok (.iconst 0, 1) := by decide +kernel
theorem dX0_copyFrom_93 : decode cX0_copyFrom 93 = .ok (.aload_n 0, 1) := by decide +kernel
theorem dX0_copyFrom_94 : decode cX0_copyFrom 94 = .ok (.getfield 18, 3) := by decide +kernel
theorem dX0_copyFrom_97 : decode cX0_copyFrom 97 = .ok (.iconst 0, 1) := by decide +kernel
theorem dX0_copyFrom_98 : decode cX0_copyFrom 98 = .ok (.bipush 100, 2) := by decide +kernel
theorem dX0_copyFrom_100 : decode cX0_copyFrom 100 = .ok (.invokestatic 51, 3) := by decide +kernel
theorem dX0_copyFrom_103 : decode cX0_copyFrom 103 = .ok (.return_, 1) := by decide +kernel
theorem dX0_hourState_0 : decode cX0_hourState 0 = .ok (.iload_n 1, 1) := by decide +kernel
theorem dX0_hourState_1 : decode cX0_hourState 1 = .ok (.invokestatic 57, 3) := by decide +kernel
theorem dX0_hourState_4 : decode cX0_hourState 4 = .ok (.ifCond .eq 12, 3) := by decide +kernel
theorem dX0_hourState_7 : decode cX0_hourState 7 = .ok (.aload_n 0, 1) := by decide +kernel
theorem dX0_hourState_8 : decode cX0_hourState 8 = .ok (.getfield 18, 3) := by decide +kernel
theorem dX0_hourState_11 : decode cX0_hourState 11 = .ok (.iload_n 1, 1) := by decide +kernel
theorem dX0_hourState_12 : decode cX0_hourState 12 = .ok (.baload, 1) := by decide +kernel
theorem dX0_hourState_13 : decode cX0_hourState 13 = .ok (.goto 4, 3) := by decide +kernel
theorem dX0_hourState_16 : decode cX0_hourState 16 = .ok (.iconst 0, 1) := by decide +kernel
theorem dX0_hourState_17 : decode cX0_hourState 17 = .ok (.ireturn, 1) := by decide +kernel
theorem dX0_markHour_0 : decode cX0_markHour 0 = .ok (.iload_n 1, 1) := by decide +kernel
theorem dX0_markHour_1 : decode cX0_markHour 1 = .ok (.invokestatic 57, 3) := by decide +kernel
theorem dX0_markHour_4 : decode cX0_markHour 4 = .ok (.ifCond .eq 11, 3) := by decide +kernel
theorem dX0_markHour_7 : decode cX0_markHour 7 = .ok (.aload_n 0, 1) := by decide +kernel
theorem dX0_markHour_8 : decode cX0_markHour 8 = .ok (.getfield 18, 3) := by decide +kernel
theorem dX0_markHour_11 : decode cX0_markHour 11 = .ok (.iload_n 1, 1) := by decide +kernel
theorem dX0_markHour_12 : decode cX0_markHour 12 = .ok (.iload_n 2, 1) := by decide +kernel
theorem dX0_markHour_13 : decode cX0_markHour 13 = .ok (.i2b, 1) := by decide +kernel
theorem dX0_markHour_14 : decode cX0_markHour 14 = .ok (.bastore, 1) := by decide +kernel
theorem dX0_markHour_15 : decode cX0_markHour 15 = .ok (.return_, 1) := by decide +kernel
theorem dX0_isQuietIn_0 : decode cX0_isQuietIn 0 = .ok (.aload_n 0, 1) := by decide +kernel
theorem dX0_isQuietIn_1 : decode cX0_isQuietIn 1 = .ok (.iload_n 1, 1) := by decide +kernel
theorem dX0_isQuietIn_2 : decode cX0_isQuietIn 2 = .ok (.invokevirtual 61, 3) := by decide +kernel
theorem dX0_isQuietIn_5 : decode cX0_isQuietIn 5 = .ok (.ifCond .eq 7, 3) := by decide +kernel
theorem dX0_isQuietIn_8 : decode cX0_isQuietIn 8 = .ok (.iconst 1, 1) := by decide +kernel
theorem dX0_isQuietIn_9 : decode cX0_isQuietIn 9 = .ok (.goto 4, 3) := by decide +kernel
theorem dX0_isQuietIn_12 : decode cX0_isQuietIn 12 = .ok (.iconst 0, 1) := by decide +kernel
theorem dX0_isQuietIn_13 : decode cX0_isQuietIn 13 = .ok (.ireturn, 1) := by decide +kernel
theorem dX0_hoursThatAre_0 : decode cX0_hoursThatAre 0 = .ok (.iconst 0, 1) := by decide +kernel
theorem dX0_hoursThatAre_1 : decode cX0_hoursThatAre 1 = .ok (.istore_n 2, 1) := by decide +kernel
theorem dX0_hoursThatAre_2 : decode cX0_hoursThatAre 2 = .ok (.iconst 0, 1) := by decide +kernel
theorem dX0_hoursThatAre_3 : decode cX0_hoursThatAre 3 = .ok (.istore_n 3, 1) := by decide +kernel
theorem dX0_hoursThatAre_4 : decode cX0_hoursThatAre 4 = .ok (.iload_n 3, 1) := by decide +kernel
theorem dX0_hoursThatAre_5 : decode cX0_hoursThatAre 5 = .ok (.bipush 100, 2) := by decide +kernel
theorem dX0_hoursThatAre_7 : decode cX0_hoursThatAre 7 = .ok (.if_icmp .ge 22, 3) := by decide +kernel
theorem dX0_hoursThatAre_10 : decode cX0_hoursThatAre 10 = .ok (.aload_n 0, 1) := by decide +kernel
theorem dX0_hoursThatAre_11 : decode cX0_hoursThatAre 11 = .ok (.getfield 18, 3) := by decide +kernel
theorem dX0_hoursThatAre_14 : decode cX0_hoursThatAre 14 = .ok (.iload_n 3, 1) := by decide +kernel
theorem dX0_hoursThatAre_15 : decode cX0_hoursThatAre 15 = .ok (.baload, 1) := by decide +kernel
theorem dX0_hoursThatAre_16 : decode cX0_hoursThatAre 16 = .ok (.iload_n 1, 1) := by decide +kernel
theorem dX0_hoursThatAre_17 : decode cX0_hoursThatAre 17 = .ok (.if_icmp .ne 6, 3) := by decide +kernel
theorem dX0_hoursThatAre_20 : decode cX0_hoursThatAre 20 = .ok (.iinc 2 1, 3) := by decide +kernel
theorem dX0_hoursThatAre_23 : decode cX0_hoursThatAre 23 = .ok (.iinc 3 1, 3) := by decide +kernel
theorem dX0_hoursThatAre_26 : decode cX0_hoursThatAre 26 = .ok (.goto (-22), 3) := by decide +kernel
theorem dX0_hoursThatAre_29 : decode cX0_hoursThatAre 29 = .ok (.iload_n 2, 1) := by decide +kernel
theorem dX0_hoursThatAre_30 : decode cX0_hoursThatAre 30 = .ok (.ireturn, 1) := by decide +kernel
theorem dX0_soldHours_0 : decode cX0_soldHours 0 = .ok (.bipush 100, 2) := by decide +kernel
theorem dX0_soldHours_2 : decode cX0_soldHours 2 = .ok (.aload_n 0, 1) := by decide +kernel
theorem dX0_soldHours_3 : decode cX0_soldHours 3 = .ok (.iconst 0, 1) := by decide +kernel
theorem dX0_soldHours_4 : decode cX0_soldHours 4 = .ok (.invokevirtual 65, 3) := by decide +kernel
theorem dX0_soldHours_7 : decode cX0_soldHours 7 = .ok (.isub, 1) := by decide +kernel
theorem dX0_soldHours_8 : decode cX0_soldHours 8 = .ok (.ireturn, 1) := by decide +kernel
theorem dX0_keptInARow_0 : decode cX0_keptInARow 0 = .ok (.iconst 0, 1) := by decide +kernel
theorem dX0_keptInARow_1 : decode cX0_keptInARow 1 = .ok (.istore_n 1, 1) := by decide +kernel
theorem dX0_keptInARow_2 : decode cX0_keptInARow 2 = .ok (.bipush 99, 2) := by decide +kernel
theorem dX0_keptInARow_4 : decode cX0_keptInARow 4 = .ok (.istore_n 2, 1) := by decide +kernel
theorem dX0_keptInARow_5 : decode cX0_keptInARow 5 = .ok (.iload_n 2, 1) := by decide +kernel
theorem dX0_keptInARow_6 : decode cX0_keptInARow 6 = .ok (.ifCond .lt 32, 3) := by decide +kernel
theorem dX0_keptInARow_9 : decode cX0_keptInARow 9 = .ok (.aload_n 0, 1) := by decide +kernel
theorem dX0_keptInARow_10 : decode cX0_keptInARow 10 = .ok (.getfield 18, 3) := by decide +kernel
theorem dX0_keptInARow_13 : decode cX0_keptInARow 13 = .ok (.iload_n 2, 1) := by decide +kernel
theorem dX0_keptInARow_14 : decode cX0_keptInARow 14 = .ok (.baload, 1) := by decide +kernel
theorem dX0_keptInARow_15 : decode cX0_keptInARow 15 = .ok (.iconst 3, 1) := by decide +kernel
theorem dX0_keptInARow_16 : decode cX0_keptInARow 16 = .ok (.if_icmp .eq 22, 3) := by decide +kernel
theorem dX0_keptInARow_19 : decode cX0_keptInARow 19 = .ok (.aload_n 0, 1) := by decide +kernel
theorem dX0_keptInARow_20 : decode cX0_keptInARow 20 = .ok (.getfield 18, 3) := by decide +kernel
theorem dX0_keptInARow_23 : decode cX0_keptInARow 23 = .ok (.iload_n 2, 1) := by decide +kernel
theorem dX0_keptInARow_24 : decode cX0_keptInARow 24 = .ok (.baload, 1) := by decide +kernel
theorem dX0_keptInARow_25 : decode cX0_keptInARow 25 = .ok (.iconst 2, 1) := by decide +kernel
theorem dX0_keptInARow_26 : decode cX0_keptInARow 26 = .ok (.if_icmp .ne 6, 3) := by decide +kernel
theorem dX0_keptInARow_29 : decode cX0_keptInARow 29 = .ok (.iinc 1 1, 3) := by decide +kernel
theorem dX0_keptInARow_32 : decode cX0_keptInARow 32 = .ok (.iinc 2 (-1), 3) := by decide +kernel
theorem dX0_keptInARow_35 : decode cX0_keptInARow 35 = .ok (.goto (-30), 3) := by decide +kernel
theorem dX0_keptInARow_38 : decode cX0_keptInARow 38 = .ok (.iload_n 1, 1) := by decide +kernel
theorem dX0_keptInARow_39 : decode cX0_keptInARow 39 = .ok (.ireturn, 1) := by decide +kernel
theorem dX0_takeStream_0 : decode cX0_takeStream 0 = .ok (.aload_n 0, 1) := by decide +kernel
theorem dX0_takeStream_1 : decode cX0_takeStream 1 = .ok (.getfield 15, 3) := by decide +kernel
theorem dX0_takeStream_4 : decode cX0_takeStream 4 = .ok (.ifCond .le 25, 3) := by decide +kernel
theorem dX0_takeStream_7 : decode cX0_takeStream 7 = .ok (.iload_n 1, 1) := by decide +kernel
theorem dX0_takeStream_8 : decode cX0_takeStream 8 = .ok (.aload_n 0, 1) := by decide +kernel
theorem dX0_takeStream_9 : decode cX0_takeStream 9 = .ok (.getfield 15, 3) := by decide +kernel
theorem dX0_takeStream_12 : decode cX0_takeStream 12 = .ok (.irem, 1) := by decide +kernel
theorem dX0_takeStream_13 : decode cX0_takeStream 13 = .ok (.ifCond .ne 16, 3) := by decide +kernel
theorem dX0_takeStream_16 : decode cX0_takeStream 16 = .ok (.aload_n 0, 1) := by decide +kernel
theorem dX0_takeStream_17 : decode cX0_takeStream 17 = .ok (.dup, 1) := by decide +kernel
theorem dX0_takeStream_18 : decode cX0_takeStream 18 = .ok (.getfield 28, 3) := by decide +kernel
theorem dX0_takeStream_21 : decode cX0_takeStream 21 = .ok (.aload_n 0, 1) := by decide +kernel
theorem dX0_takeStream_22 : decode cX0_takeStream 22 = .ok (.getfield 44, 3) := by decide +kernel
theorem dX0_takeStream_25 : decode cX0_takeStream 25 = .ok (.iadd, 1) := by decide +kernel
theorem dX0_takeStream_26 : decode cX0_takeStream 26 = .ok (.putfield 28, 3) := by decide +kernel
theorem dX0_takeStream_29 : decode cX0_takeStream 29 = .ok (.return_, 1) := by decide +kernel
theorem dX0_takeBackFrom_0 : decode cX0_takeBackFrom 0 = .ok (.aload_n 1, 1) := by decide +kernel
theorem dX0_takeBackFrom_1 : decode cX0_takeBackFrom 1 = .ok (.getfield 25, 3) := by decide +kernel
theorem dX0_takeBackFrom_4 : decode cX0_takeBackFrom 4 = .ok (.aload_n 0, 1) := by decide +kernel
theorem dX0_takeBackFrom_5 : decode cX0_takeBackFrom 5 = .ok (.getfield 9, 3) := by decide +kernel
theorem dX0_takeBackFrom_8 : decode cX0_takeBackFrom 8 = .ok (.invokestatic 68, 3) := by decide +kernel
theorem dX0_takeBackFrom_11 : decode cX0_takeBackFrom 11 = .ok (.istore_n 2, 1) := by decide +kernel
theorem dX0_takeBackFrom_12 : decode cX0_takeBackFrom 12 = .ok (.aload_n 1, 1) := by decide +kernel
theorem dX0_takeBackFrom_13 : decode cX0_takeBackFrom 13 = .ok (.dup, 1) := by decide +kernel
theorem dX0_takeBackFrom_14 : decode cX0_takeBackFrom 14 = .ok (.getfield 25, 3) := by decide +kernel
theorem dX0_takeBackFrom_17 : decode cX0_takeBackFrom 17 = .ok (.iload_n 2, 1) := by decide +kernel
theorem dX0_takeBackFrom_18 : decode cX0_takeBackFrom 18 = .ok (.isub, 1) := by decide +kernel
theorem dX0_takeBackFrom_19 : decode cX0_takeBackFrom 19 = .ok (.putfield 25, 3) := by decide +kernel
theorem dX0_takeBackFrom_22 : decode cX0_takeBackFrom 22 = .ok (.aload_n 1, 1) := by decide +kernel
theorem dX0_takeBackFrom_23 : decode cX0_takeBackFrom 23 = .ok (.dup, 1) := by decide +kernel
theorem dX0_takeBackFrom_24 : decode cX0_takeBackFrom 24 = .ok (.getfield 22, 3) := by decide +kernel
theorem dX0_takeBackFrom_27 : decode cX0_takeBackFrom 27 = .ok (.iload_n 2, 1) := by decide +kernel
theorem dX0_takeBackFrom_28 : decode cX0_takeBackFrom 28 = .ok (.iadd, 1) := by decide +kernel
theorem dX0_takeBackFrom_29 : decode cX0_takeBackFrom 29 = .ok (.putfield 22, 3) := by decide +kernel
theorem dX0_takeBackFrom_32 : decode cX0_takeBackFrom 32 = .ok (.aload_n 0, 1) := by decide +kernel
theorem dX0_takeBackFrom_33 : decode cX0_takeBackFrom 33 = .ok (.iload_n 2, 1) := by decide +kernel
theorem dX0_takeBackFrom_34 : decode cX0_takeBackFrom 34 = .ok (.invokevirtual 74, 3) := by decide +kernel
theorem dX0_takeBackFrom_37 : decode cX0_takeBackFrom 37 = .ok (.return_, 1) := by decide +kernel
theorem dX0_writeHeld_0 : decode cX0_writeHeld 0 = .ok (.aload_n 0, 1) := by decide +kernel
theorem dX0_writeHeld_1 : decode cX0_writeHeld 1 = .ok (.getfield 28, 3) := by decide +kernel
theorem dX0_writeHeld_4 : decode cX0_writeHeld 4 = .ok (.aload_n 0, 1) := by decide +kernel
theorem dX0_writeHeld_5 : decode cX0_writeHeld 5 = .ok (.getfield 9, 3) := by decide +kernel
theorem dX0_writeHeld_8 : decode cX0_writeHeld 8 = .ok (.invokestatic 68, 3) := by decide +kernel
theorem dX0_writeHeld_11 : decode cX0_writeHeld 11 = .ok (.istore_n 1, 1) := by decide +kernel
theorem dX0_writeHeld_12 : decode cX0_writeHeld 12 = .ok (.aload_n 0, 1) := by decide +kernel
theorem dX0_writeHeld_13 : decode cX0_writeHeld 13 = .ok (.dup, 1) := by decide +kernel
theorem dX0_writeHeld_14 : decode cX0_writeHeld 14 = .ok (.getfield 28, 3) := by decide +kernel
theorem dX0_writeHeld_17 : decode cX0_writeHeld 17 = .ok (.iload_n 1, 1) := by decide +kernel
theorem dX0_writeHeld_18 : decode cX0_writeHeld 18 = .ok (.isub, 1) := by decide +kernel
theorem dX0_writeHeld_19 : decode cX0_writeHeld 19 = .ok (.putfield 28, 3) := by decide +kernel
theorem dX0_writeHeld_22 : decode cX0_writeHeld 22 = .ok (.aload_n 0, 1) := by decide +kernel
theorem dX0_writeHeld_23 : decode cX0_writeHeld 23 = .ok (.iload_n 1, 1) := by decide +kernel
theorem dX0_writeHeld_24 : decode cX0_writeHeld 24 = .ok (.invokevirtual 74, 3) := by decide +kernel
theorem dX0_writeHeld_27 : decode cX0_writeHeld 27 = .ok (.return_, 1) := by decide +kernel
theorem dX0_fillCells_0 : decode cX0_fillCells 0 = .ok (.aload_n 0, 1) := by decide +kernel
theorem dX0_fillCells_1 : decode cX0_fillCells 1 = .ok (.dup, 1) := by decide +kernel
theorem dX0_fillCells_2 : decode cX0_fillCells 2 = .ok (.getfield 9, 3) := by decide +kernel
theorem dX0_fillCells_5 : decode cX0_fillCells 5 = .ok (.iload_n 1, 1) := by decide +kernel
theorem dX0_fillCells_6 : decode cX0_fillCells 6 = .ok (.isub, 1) := by decide +kernel
theorem dX0_fillCells_7 : decode cX0_fillCells 7 = .ok (.putfield 9, 3) := by decide +kernel
theorem dX0_fillCells_10 : decode cX0_fillCells 10 = .ok (.aload_n 0, 1) := by decide +kernel
theorem dX0_fillCells_11 : decode cX0_fillCells 11 = .ok (.dup, 1) := by decide +kernel
theorem dX0_fillCells_12 : decode cX0_fillCells 12 = .ok (.getfield 22, 3) := by decide +kernel
theorem dX0_fillCells_15 : decode cX0_fillCells 15 = .ok (.iload_n 1, 1) := by decide +kernel
theorem dX0_fillCells_16 : decode cX0_fillCells 16 = .ok (.iadd, 1) := by decide +kernel
theorem dX0_fillCells_17 : decode cX0_fillCells 17 = .ok (.putfield 22, 3) := by decide +kernel
theorem dX0_fillCells_20 : decode cX0_fillCells 20 = .ok (.aload_n 0, 1) := by decide +kernel
theorem dX0_fillCells_21 : decode cX0_fillCells 21 = .ok (.dup, 1) := by decide +kernel
theorem dX0_fillCells_22 : decode cX0_fillCells 22 = .ok (.getfield 35, 3) := by decide +kernel
theorem dX0_fillCells_25 : decode cX0_fillCells 25 = .ok (.iload_n 1, 1) := by decide +kernel
theorem dX0_fillCells_26 : decode cX0_fillCells 26 = .ok (.iadd, 1) := by decide +kernel
theorem dX0_fillCells_27 : decode cX0_fillCells 27 = .ok (.putfield 35, 3) := by decide +kernel
theorem dX0_fillCells_30 : decode cX0_fillCells 30 = .ok (.return_, 1) := by decide +kernel
theorem dX0_lendTo_0 : decode cX0_lendTo 0 = .ok (.aload_n 0, 1) := by decide +kernel
theorem dX0_lendTo_1 : decode cX0_lendTo 1 = .ok (.getfield 28, 3) := by decide +kernel
theorem dX0_lendTo_4 : decode cX0_lendTo 4 = .ok (.iload_n 2, 1) := by decide +kernel
theorem dX0_lendTo_5 : decode cX0_lendTo 5 = .ok (.if_icmp .le 47, 3) := by decide +kernel
theorem dX0_lendTo_8 : decode cX0_lendTo 8 = .ok (.aload_n 0, 1) := by decide +kernel
theorem dX0_lendTo_9 : decode cX0_lendTo 9 = .ok (.getfield 28, 3) := by decide +kernel
theorem dX0_lendTo_12 : decode cX0_lendTo 12 = .ok (.iload_n 2, 1) := by decide +kernel
theorem dX0_lendTo_13 : decode cX0_lendTo 13 = .ok (.isub, 1) := by decide +kernel
theorem dX0_lendTo_14 : decode cX0_lendTo 14 = .ok (.aload_n 1, 1) := by decide +kernel
theorem dX0_lendTo_15 : decode cX0_lendTo 15 = .ok (.getfield 9, 3) := by decide +kernel
theorem dX0_lendTo_18 : decode cX0_lendTo 18 = .ok (.invokestatic 68, 3) := by decide +kernel
theorem dX0_lendTo_21 : decode cX0_lendTo 21 = .ok (.istore_n 3, 1) := by decide +kernel
theorem dX0_lendTo_22 : decode cX0_lendTo 22 = .ok (.aload_n 1, 1) := by decide +kernel
theorem dX0_lendTo_23 : decode cX0_lendTo 23 = .ok (.dup, 1) := by decide +kernel
theorem dX0_lendTo_24 : decode cX0_lendTo 24 = .ok (.getfield 9, 3) := by decide +kernel
theorem dX0_lendTo_27 : decode cX0_lendTo 27 = .ok (.iload_n 3, 1) := by decide +kernel
theorem dX0_lendTo_28 : decode cX0_lendTo 28 = .ok (.isub, 1) := by decide +kernel
theorem dX0_lendTo_29 : decode cX0_lendTo 29 = .ok (.putfield 9, 3) := by decide +kernel
theorem dX0_lendTo_32 : decode cX0_lendTo 32 = .ok (.aload_n 1, 1) := by decide +kernel
theorem dX0_lendTo_33 : decode cX0_lendTo 33 = .ok (.dup, 1) := by decide +kernel
theorem dX0_lendTo_34 : decode cX0_lendTo 34 = .ok (.getfield 25, 3) := by decide +kernel
theorem dX0_lendTo_37 : decode cX0_lendTo 37 = .ok (.iload_n 3, 1) := by decide +kernel
theorem dX0_lendTo_38 : decode cX0_lendTo 38 = .ok (.iadd, 1) := by decide +kernel
theorem dX0_lendTo_39 : decode cX0_lendTo 39 = .ok (.putfield 25, 3) := by decide +kernel
theorem dX0_lendTo_42 : decode cX0_lendTo 42 = .ok (.aload_n 0, 1) := by decide +kernel
theorem dX0_lendTo_43 : decode cX0_lendTo 43 = .ok (.dup, 1) := by decide +kernel
theorem dX0_lendTo_44 : decode cX0_lendTo 44 = .ok (.getfield 28, 3) := by decide +kernel
theorem dX0_lendTo_47 : decode cX0_lendTo 47 = .ok (.iload_n 3, 1) := by decide +kernel
theorem dX0_lendTo_48 : decode cX0_lendTo 48 = .ok (.isub, 1) := by decide +kernel
theorem dX0_lendTo_49 : decode cX0_lendTo 49 = .ok (.putfield 28, 3) := by decide +kernel
theorem dX0_lendTo_52 : decode cX0_lendTo 52 = .ok (.return_, 1) := by decide +kernel
theorem dX0_cleanCells_0 : decode cX0_cleanCells 0 = .ok (.aload_n 0, 1) := by decide +kernel
theorem dX0_cleanCells_1 : decode cX0_cleanCells 1 = .ok (.dup, 1) := by decide +kernel
theorem dX0_cleanCells_2 : decode cX0_cleanCells 2 = .ok (.getfield 22, 3) := by decide +kernel
theorem dX0_cleanCells_5 : decode cX0_cleanCells 5 = .ok (.iload_n 1, 1) := by decide +kernel
theorem dX0_cleanCells_6 : decode cX0_cleanCells 6 = .ok (.isub, 1) := by decide +kernel
theorem dX0_cleanCells_7 : decode cX0_cleanCells 7 = .ok (.putfield 22, 3) := by decide +kernel
theorem dX0_cleanCells_10 : decode cX0_cleanCells 10 = .ok (.aload_n 0, 1) := by decide +kernel
theorem dX0_cleanCells_11 : decode cX0_cleanCells 11 = .ok (.dup, 1) := by decide +kernel
theorem dX0_cleanCells_12 : decode cX0_cleanCells 12 = .ok (.getfield 9, 3) := by decide +kernel
theorem dX0_cleanCells_15 : decode cX0_cleanCells 15 = .ok (.iload_n 1, 1) := by decide +kernel
theorem dX0_cleanCells_16 : decode cX0_cleanCells 16 = .ok (.iadd, 1) := by decide +kernel
theorem dX0_cleanCells_17 : decode cX0_cleanCells 17 = .ok (.putfield 9, 3) := by decide +kernel
theorem dX0_cleanCells_20 : decode cX0_cleanCells 20 = .ok (.aload_n 0, 1) := by decide +kernel
theorem dX0_cleanCells_21 : decode cX0_cleanCells 21 = .ok (.dup, 1) := by decide +kernel
theorem dX0_cleanCells_22 : decode cX0_cleanCells 22 = .ok (.getfield 38, 3) := by decide +kernel
theorem dX0_cleanCells_25 : decode cX0_cleanCells 25 = .ok (.iconst 1, 1) := by decide +kernel
theorem dX0_cleanCells_26 : decode cX0_cleanCells 26 = .ok (.iadd, 1) := by decide +kernel
theorem dX0_cleanCells_27 : decode cX0_cleanCells 27 = .ok (.putfield 38, 3) := by decide +kernel
theorem dX0_cleanCells_30 : decode cX0_cleanCells 30 = .ok (.return_, 1) := by decide +kernel
theorem dX1_init_0 : decode cX1_init 0 = .ok (.aload_n 0, 1) := by decide +kernel
theorem dX1_init_1 : decode cX1_init 1 = .ok (.invokespecial 3, 3) := by decide +kernel
theorem dX1_init_4 : decode cX1_init 4 = .ok (.aload_n 0, 1) := by decide +kernel
theorem dX1_init_5 : decode cX1_init 5 = .ok (.bipush 7, 2) := by decide +kernel
theorem dX1_init_7 : decode cX1_init 7 = .ok (.anewarray 9, 3) := by decide +kernel
theorem dX1_init_10 : decode cX1_init 10 = .ok (.putfield 11, 3) := by decide +kernel
theorem dX1_init_13 : decode cX1_init 13 = .ok (.iconst 0, 1) := by decide +kernel
theorem dX1_init_14 : decode cX1_init 14 = .ok (.istore_n 1, 1) := by decide +kernel
theorem dX1_init_15 : decode cX1_init 15 = .ok (.iload_n 1, 1) := by decide +kernel
theorem dX1_init_16 : decode cX1_init 16 = .ok (.bipush 6, 2) := by decide +kernel
theorem dX1_init_18 : decode cX1_init 18 = .ok (.if_icmp .gt 22, 3) := by decide +kernel
theorem dX1_init_21 : decode cX1_init 21 = .ok (.aload_n 0, 1) := by decide +kernel
theorem dX1_init_22 : decode cX1_init 22 = .ok (.getfield 11, 3) := by decide +kernel
theorem dX1_init_25 : decode cX1_init 25 = .ok (.iload_n 1, 1) := by decide +kernel
theorem dX1_init_26 : decode cX1_init 26 = .ok (.new 9, 3) := by decide +kernel
theorem dX1_init_29 : decode cX1_init 29 = .ok (.dup, 1) := by decide +kernel
theorem dX1_init_30 : decode cX1_init 30 = .ok (.invokespecial 17, 3) := by decide +kernel
theorem dX1_init_33 : decode cX1_init 33 = .ok (.aastore, 1) := by decide +kernel
theorem dX1_init_34 : decode cX1_init 34 = .ok (.iinc 1 1, 3) := by decide +kernel
theorem dX1_init_37 : decode cX1_init 37 = .ok (.goto (-22), 3) := by decide +kernel
theorem dX1_init_40 : decode cX1_init 40 = .ok (.return_, 1) := by decide +kernel
theorem dX1_prepare_0 : decode cX1_prepare 0 = .ok (.aload_n 0, 1) := by decide +kernel
theorem dX1_prepare_1 : decode cX1_prepare 1 = .ok (.getfield 11, 3) := by decide +kernel
theorem dX1_prepare_4 : decode cX1_prepare 4 = .ok (.aload_n 0, 1) := by decide +kernel
theorem dX1_prepare_5 : decode cX1_prepare 5 = .ok (.getfield 18, 3) := by decide +kernel
theorem dX1_prepare_8 : decode cX1_prepare 8 = .ok (.aaload, 1) := by decide +kernel
theorem dX1_prepare_9 : decode cX1_prepare 9 = .ok (.aload_n 1, 1) := by decide +kernel
theorem dX1_prepare_10 : decode cX1_prepare 10 = .ok (.invokevirtual 22, 3) := by decide +kernel
theorem dX1_prepare_13 : decode cX1_prepare 13 = .ok (.return_, 1) := by decide +kernel
theorem dX1_keepPrepared_0 : decode cX1_keepPrepared 0 = .ok (.aload_n 0, 1) := by decide +kernel
theorem dX1_keepPrepared_1 : decode cX1_keepPrepared 1 = .ok (.aload_n 0, 1) := by decide +kernel
theorem dX1_keepPrepared_2 : decode cX1_keepPrepared 2 = .ok (.getfield 18, 3) := by decide +kernel
theorem dX1_keepPrepared_5 : decode cX1_keepPrepared 5 = .ok (.bipush 6, 2) := by decide +kernel
theorem dX1_keepPrepared_7 : decode cX1_keepPrepared 7 = .ok (.if_icmp .ge 12, 3) := by decide +kernel
theorem dX1_keepPrepared_10 : decode cX1_keepPrepared 10 = .ok (.aload_n 0, 1) := by decide +kernel
theorem dX1_keepPrepared_11 : decode cX1_keepPrepared 11 = .ok (.getfield 18, 3) := by decide +kernel
theorem dX1_keepPrepared_14 : decode cX1_keepPrepared 14 = .ok (.iconst 1, 1) := by decide +kernel
theorem dX1_keepPrepared_15 : decode cX1_keepPrepared 15 = .ok (.iadd, 1) := by decide +kernel
theorem dX1_keepPrepared_16 : decode cX1_keepPrepared 16 = .ok (.goto 4, 3) := by decide +kernel
theorem dX1_keepPrepared_19 : decode cX1_keepPrepared 19 = .ok (.iconst 0, 1) := by decide +kernel
theorem dX1_keepPrepared_20 : decode cX1_keepPrepared 20 = .ok (.putfield 18, 3) := by decide +kernel
theorem dX1_keepPrepared_23 : decode cX1_keepPrepared 23 = .ok (.aload_n 0, 1) := by decide +kernel
theorem dX1_keepPrepared_24 : decode cX1_keepPrepared 24 = .ok (.aload_n 0, 1) := by decide +kernel
theorem dX1_keepPrepared_25 : decode cX1_keepPrepared 25 = .ok (.getfield 26, 3) := by decide +kernel
theorem dX1_keepPrepared_28 : decode cX1_keepPrepared 28 = .ok (.iconst 1, 1) := by decide +kernel
theorem dX1_keepPrepared_29 : decode cX1_keepPrepared 29 = .ok (.iadd, 1) := by decide +kernel
theorem dX1_keepPrepared_30 : decode cX1_keepPrepared 30 = .ok (.bipush 6, 2) := by decide +kernel
theorem dX1_keepPrepared_32 : decode cX1_keepPrepared 32 = .ok (.invokestatic 29, 3) := by decide +kernel
theorem dX1_keepPrepared_35 : decode cX1_keepPrepared 35 = .ok (.putfield 26, 3) := by decide +kernel
theorem dX1_keepPrepared_38 : decode cX1_keepPrepared 38 = .ok (.return_, 1) := by decide +kernel
theorem dX2_init_0 : decode cX2_init 0 = .ok (.aload_n 0, 1) := by decide +kernel
theorem dX2_init_1 : decode cX2_init 1 = .ok (.invokespecial 3, 3) := by decide +kernel
theorem dX2_init_4 : decode cX2_init 4 = .ok (.aload_n 0, 1) := by decide +kernel
theorem dX2_init_5 : decode cX2_init 5 = .ok (.bipush 80, 2) := by decide +kernel
theorem dX2_init_7 : decode cX2_init 7 = .ok (.newarray .char, 2) := by decide +kernel
theorem dX2_init_9 : decode cX2_init 9 = .ok (.putfield 9, 3) := by decide +kernel
theorem dX2_init_12 : decode cX2_init 12 = .ok (.return_, 1) := by decide +kernel
theorem dX3_init_0 : decode cX3_init 0 = .ok (.aload_n 0, 1) := by decide +kernel
theorem dX3_init_1 : decode cX3_init 1 = .ok (.invokespecial 3, 3) := by decide +kernel
theorem dX3_init_4 : decode cX3_init 4 = .ok (.aload_n 0, 1) := by decide +kernel
theorem dX3_init_5 : decode cX3_init 5 = .ok (.bipush 7, 2) := by decide +kernel
theorem dX3_init_7 : decode cX3_init 7 = .ok (.newarray .int, 2) := by decide +kernel
theorem dX3_init_9 : decode cX3_init 9 = .ok (.putfield 9, 3) := by decide +kernel
theorem dX3_init_12 : decode cX3_init 12 = .ok (.aload_n 0, 1) := by decide +kernel
theorem dX3_init_13 : decode cX3_init 13 = .ok (.iconst 4, 1) := by decide +kernel
theorem dX3_init_14 : decode cX3_init 14 = .ok (.anewarray 15, 3) := by decide +kernel
theorem dX3_init_17 : decode cX3_init 17 = .ok (.putfield 17, 3) := by decide +kernel
theorem dX3_init_20 : decode cX3_init 20 = .ok (.getstatic 21, 3) := by decide +kernel
theorem dX3_init_23 : decode cX3_init 23 = .ok (.iconst 0, 1) := by decide +kernel
theorem dX3_init_24 : decode cX3_init 24 = .ok (.aload_n 0, 1) := by decide +kernel
theorem dX3_init_25 : decode cX3_init 25 = .ok (.getfield 9, 3) := by decide +kernel
theorem dX3_init_28 : decode cX3_init 28 = .ok (.iconst 0, 1) := by decide +kernel
theorem dX3_init_29 : decode cX3_init 29 = .ok (.bipush 7, 2) := by decide +kernel
theorem dX3_init_31 : decode cX3_init 31 = .ok (.invokestatic 24, 3) := by decide +kernel
theorem dX3_init_34 : decode cX3_init 34 = .ok (.iconst 0, 1) := by decide +kernel
theorem dX3_init_35 : decode cX3_init 35 = .ok (.istore_n 1, 1) := by decide +kernel
theorem dX3_init_36 : decode cX3_init 36 = .ok (.iload_n 1, 1) := by decide +kernel
theorem dX3_init_37 : decode cX3_init 37 = .ok (.iconst 4, 1) := by decide +kernel
theorem dX3_init_38 : decode cX3_init 38 = .ok (.if_icmp .ge 22, 3) := by decide +kernel
theorem dX3_init_41 : decode cX3_init 41 = .ok (.aload_n 0, 1) := by decide +kernel
theorem dX3_init_42 : decode cX3_init 42 = .ok (.getfield 17, 3) := by decide +kernel
theorem dX3_init_45 : decode cX3_init 45 = .ok (.iload_n 1, 1) := by decide +kernel
theorem dX3_init_46 : decode cX3_init 46 = .ok (.new 15, 3) := by decide +kernel
theorem dX3_init_49 : decode cX3_init 49 = .ok (.dup, 1) := by decide +kernel
theorem dX3_init_50 : decode cX3_init 50 = .ok (.invokespecial 30, 3) := by decide +kernel
theorem dX3_init_53 : decode cX3_init 53 = .ok (.aastore, 1) := by decide +kernel
theorem dX3_init_54 : decode cX3_init 54 = .ok (.iinc 1 1, 3) := by decide +kernel
theorem dX3_init_57 : decode cX3_init 57 = .ok (.goto (-21), 3) := by decide +kernel
theorem dX3_init_60 : decode cX3_init 60 = .ok (.return_, 1) := by decide +kernel
theorem dX3_copyFrom_0 : decode cX3_copyFrom 0 = .ok (.aload_n 1, 1) := by decide +kernel
theorem dX3_copyFrom_1 : decode cX3_copyFrom 1 = .ok (.getfield 9, 3) := by decide +kernel
theorem dX3_copyFrom_4 : decode cX3_copyFrom 4 = .ok (.iconst 0, 1) := by decide +kernel
theorem dX3_copyFrom_5 : decode cX3_copyFrom 5 = .ok (.aload_n 0, 1) := by decide +kernel
theorem dX3_copyFrom_6 : decode cX3_copyFrom 6 = .ok (.getfield 9, 3) := by decide +kernel
theorem dX3_copyFrom_9 : decode cX3_copyFrom 9 = .ok (.iconst 0, 1) := by decide +kernel
theorem dX3_copyFrom_10 : decode cX3_copyFrom 10 = .ok (.bipush 7, 2) := by decide +kernel
theorem dX3_copyFrom_12 : decode cX3_copyFrom 12 = .ok (.invokestatic 24, 3) := by decide +kernel
theorem dX3_copyFrom_15 : decode cX3_copyFrom 15 = .ok (.iconst 0, 1) := by decide +kernel
theorem dX3_copyFrom_16 : decode cX3_copyFrom 16 = .ok (.istore_n 2, 1) := by decide +kernel
theorem dX3_copyFrom_17 : decode cX3_copyFrom 17 = .ok (.iload_n 2, 1) := by decide +kernel
theorem dX3_copyFrom_18 : decode cX3_copyFrom 18 = .ok (.iconst 4, 1) := by decide +kernel
theorem dX3_copyFrom_19 : decode cX3_copyFrom 19 = .ok (.if_icmp .ge 24, 3) := by decide +kernel
theorem dX3_copyFrom_22 : decode cX3_copyFrom 22 = .ok (.aload_n 0, 1) := by decide +kernel
theorem dX3_copyFrom_23 : decode cX3_copyFrom 23 = .ok (.getfield 17, 3) := by decide +kernel
theorem dX3_copyFrom_26 : decode cX3_copyFrom 26 = .ok (.iload_n 2, 1) := by decide +kernel
theorem dX3_copyFrom_27 : decode cX3_copyFrom 27 = .ok (.aaload, 1) := by decide +kernel
theorem dX3_copyFrom_28 : decode cX3_copyFrom 28 = .ok (.aload_n 1, 1) := by decide +kernel
theorem dX3_copyFrom_29 : decode cX3_copyFrom 29 = .ok (.getfield 17, 3) := by decide +kernel
theorem dX3_copyFrom_32 : decode cX3_copyFrom 32 = .ok (.iload_n 2, 1) := by decide +kernel
theorem dX3_copyFrom_33 : decode cX3_copyFrom 33 = .ok (.aaload, 1) := by decide +kernel
theorem dX3_copyFrom_34 : decode cX3_copyFrom 34 = .ok (.invokevirtual 31, 3) := by decide +kernel
theorem dX3_copyFrom_37 : decode cX3_copyFrom 37 = .ok (.iinc 2 1, 3) := by decide +kernel
theorem dX3_copyFrom_40 : decode cX3_copyFrom 40 = .ok (.goto (-23), 3) := by decide +kernel
theorem dX3_copyFrom_43 : decode cX3_copyFrom 43 = .ok (.aload_n 0, 1) := by decide +kernel
theorem dX3_copyFrom_44 : decode cX3_copyFrom 44 = .ok (.aload_n 1, 1) := by decide +kernel
theorem dX3_copyFrom_45 : decode cX3_copyFrom 45 = .ok (.getfield 35, 3) := by decide +kernel
theorem dX3_copyFrom_48 : decode cX3_copyFrom 48 = .ok (.putfield 35, 3) := by decide +kernel
theorem dX3_copyFrom_51 : decode cX3_copyFrom 51 = .ok (.aload_n 0, 1) := by decide +kernel
theorem dX3_copyFrom_52 : decode cX3_copyFrom 52 = .ok (.aload_n 1, 1) := by decide +kernel
theorem dX3_copyFrom_53 : decode cX3_copyFrom 53 = .ok (.getfield 39, 3) := by decide +kernel
theorem dX3_copyFrom_56 : decode cX3_copyFrom 56 = .ok (.putfield 39, 3) := by decide +kernel
theorem dX3_copyFrom_59 : decode cX3_copyFrom 59 = .ok (.aload_n 0, 1) := by decide +kernel
theorem dX3_copyFrom_60 : decode cX3_copyFrom 60 = .ok (.aload_n 1, 1) := by decide +kernel
theorem dX3_copyFrom_61 : decode cX3_copyFrom 61 = .ok (.getfield 42, 3) := by decide +kernel
theorem dX3_copyFrom_64 : decode cX3_copyFrom 64 = .ok (.putfield 42, 3) := by decide +kernel
theorem dX3_copyFrom_67 : decode cX3_copyFrom 67 = .ok (.aload_n 0, 1) := by decide +kernel
theorem dX3_copyFrom_68 : decode cX3_copyFrom 68 = .ok (.aload_n 1, 1) := by decide +kernel
theorem dX3_copyFrom_69 : decode cX3_copyFrom 69 = .ok (.getfield 45, 3) := by decide +kernel
theorem dX3_copyFrom_72 : decode cX3_copyFrom 72 = .ok (.putfield 45, 3) := by decide +kernel
theorem dX3_copyFrom_75 : decode cX3_copyFrom 75 = .ok (.aload_n 0, 1) := by decide +kernel
theorem dX3_copyFrom_76 : decode cX3_copyFrom 76 = .ok (.aload_n 1, 1) := by decide +kernel
theorem dX3_copyFrom_77 : decode cX3_copyFrom 77 = .ok (.getfield 48, 3) := by decide +kernel
theorem dX3_copyFrom_80 : decode cX3_copyFrom 80 = .ok (.putfield 48, 3) := by decide +kernel
theorem dX3_copyFrom_83 : decode cX3_copyFrom 83 = .ok (.return_, 1) := by decide +kernel
theorem dX3_hourOfNow_0 : decode cX3_hourOfNow 0 = .ok (.aload_n 0, 1) := by decide +kernel
theorem dX3_hourOfNow_1 : decode cX3_hourOfNow 1 = .ok (.getfield 35, 3) := by decide +kernel
theorem dX3_hourOfNow_4 : decode cX3_hourOfNow 4 = .ok (.bipush 60, 2) := by decide +kernel
theorem dX3_hourOfNow_6 : decode cX3_hourOfNow 6 = .ok (.idiv, 1) := by decide +kernel
theorem dX3_hourOfNow_7 : decode cX3_hourOfNow 7 = .ok (.ireturn, 1) := by decide +kernel
theorem dX3_changeSetting_0 : decode cX3_changeSetting 0 = .ok (.iload_n 1, 1) := by decide +kernel
theorem dX3_changeSetting_1 : decode cX3_changeSetting 1 = .ok (.ifCond .lt 9, 3) := by decide +kernel
theorem dX3_changeSetting_4 : decode cX3_changeSetting 4 = .ok (.iload_n 1, 1) := by decide +kernel
theorem dX3_changeSetting_5 : decode cX3_changeSetting 5 = .ok (.bipush 7, 2) := by decide +kernel
theorem dX3_changeSetting_7 : decode cX3_changeSetting 7 = .ok (.if_icmp .lt 6, 3) := by decide +kernel
theorem dX3_changeSetting_10 : decode cX3_changeSetting 10 = .ok (.bipush (-2), 2) := by decide +kernel
theorem dX3_changeSetting_12 : decode cX3_changeSetting 12 = .ok (.ireturn, 1) := by decide +kernel
theorem dX3_changeSetting_13 : decode cX3_changeSetting 13 = .ok (.iload_n 2, 1) := by decide +kernel
theorem dX3_changeSetting_14 : decode cX3_changeSetting 14 = .ok (.getstatic 51, 3) := by decide +kernel
theorem dX3_changeSetting_17 : decode cX3_changeSetting 17 = .ok (.iload_n 1, 1) := by decide +kernel
theorem dX3_changeSetting_18 : decode cX3_changeSetting 18 = .ok (.iaload, 1) := by decide +kernel
theorem dX3_changeSetting_19 : decode cX3_changeSetting 19 = .ok (.if_icmp .lt 12, 3) := by decide +kernel
theorem dX3_changeSetting_22 : decode cX3_changeSetting 22 = .ok (.iload_n 2, 1) := by decide +kernel
theorem dX3_changeSetting_23 : decode cX3_changeSetting 23 = .ok (.getstatic 54, 3) := by decide +kernel
theorem dX3_changeSetting_26 : decode cX3_changeSetting 26 = .ok (.iload_n 1, 1) := by decide +kernel
theorem dX3_changeSetting_27 : decode cX3_changeSetting 27 = .ok (.iaload, 1) := by decide +kernel
theorem dX3_changeSetting_28 : decode cX3_changeSetting 28 = .ok (.if_icmp .le 6, 3) := by decide +kernel
theorem dX3_changeSetting_31 : decode cX3_changeSetting 31 = .ok (.bipush (-2), 2) := by decide +kernel
theorem dX3_changeSetting_33 : decode cX3_changeSetting 33 = .ok (.ireturn, 1) := by decide +kernel
theorem dX3_changeSetting_34 : decode cX3_changeSetting 34 = .ok (.aload_n 0, 1) := by decide +kernel
theorem dX3_changeSetting_35 : decode cX3_changeSetting 35 = .ok (.getfield 9, 3) := by decide +kernel
theorem dX3_changeSetting_38 : decode cX3_changeSetting 38 = .ok (.iload_n 1, 1) := by decide +kernel
theorem dX3_changeSetting_39 : decode cX3_changeSetting 39 = .ok (.iaload, 1) := by decide +kernel
theorem dX3_changeSetting_40 : decode cX3_changeSetting 40 = .ok (.istore_n 3, 1) := by decide +kernel
theorem dX3_changeSetting_41 : decode cX3_changeSetting 41 = .ok (.aload_n 0, 1) := by decide +kernel
theorem dX3_changeSetting_42 : decode cX3_changeSetting 42 = .ok (.getfield 9, 3) := by decide +kernel
theorem dX3_changeSetting_45 : decode cX3_changeSetting 45 = .ok (.iload_n 1, 1) := by decide +kernel
theorem dX3_changeSetting_46 : decode cX3_changeSetting 46 = .ok (.iload_n 2, 1) := by decide +kernel
theorem dX3_changeSetting_47 : decode cX3_changeSetting 47 = .ok (.iastore, 1) := by decide +kernel
theorem dX3_changeSetting_48 : decode cX3_changeSetting 48 = .ok (.iload_n 3, 1) := by decide +kernel
theorem dX3_changeSetting_49 : decode cX3_changeSetting 49 = .ok (.ireturn, 1) := by decide +kernel
theorem dX3_changeStream_0 : decode cX3_changeStream 0 = .ok (.iload_n 1, 1) := by decide +kernel
theorem dX3_changeStream_1 : decode cX3_changeStream 1 = .ok (.invokestatic 57, 3) := by decide +kernel
theorem dX3_changeStream_4 : decode cX3_changeStream 4 = .ok (.ifCond .ne 5, 3) := by decide +kernel
theorem dX3_changeStream_7 : decode cX3_changeStream 7 = .ok (.iconst (-1), 1) := by decide +kernel
theorem dX3_changeStream_8 : decode cX3_changeStream 8 = .ok (.ireturn, 1) := by decide +kernel
theorem dX3_changeStream_9 : decode cX3_changeStream 9 = .ok (.iload_n 2, 1) := by decide +kernel
theorem dX3_changeStream_10 : decode cX3_changeStream 10 = .ok (.iconst 1, 1) := by decide +kernel
theorem dX3_changeStream_11 : decode cX3_changeStream 11 = .ok (.if_icmp .lt 19, 3) := by decide +kernel
theorem dX3_changeStream_14 : decode cX3_changeStream 14 = .ok (.iload_n 2, 1) := by decide +kernel
theorem dX3_changeStream_15 : decode cX3_changeStream 15 = .ok (.bipush 60, 2) := by decide +kernel
theorem dX3_changeStream_17 : decode cX3_changeStream 17 = .ok (.if_icmp .gt 13, 3) := by decide +kernel
theorem dX3_changeStream_20 : decode cX3_changeStream 20 = .ok (.iload_n 3, 1) := by decide +kernel
theorem dX3_changeStream_21 : decode cX3_changeStream 21 = .ok (.ifCond .lt 9, 3) := by decide +kernel
theorem dX3_changeStream_24 : decode cX3_changeStream 24 = .ok (.iload_n 3, 1) := by decide +kernel
theorem dX3_changeStream_25 : decode cX3_changeStream 25 = .ok (.bipush 20, 2) := by decide +kernel
theorem dX3_changeStream_27 : decode cX3_changeStream 27 = .ok (.if_icmp .le 6, 3) := by decide +kernel
theorem dX3_changeStream_30 : decode cX3_changeStream 30 = .ok (.bipush (-2), 2) := by decide +kernel
theorem dX3_changeStream_32 : decode cX3_changeStream 32 = .ok (.ireturn, 1) := by decide +kernel
theorem dX3_changeStream_33 : decode cX3_changeStream 33 = .ok (.aload_n 0, 1) := by decide +kernel
theorem dX3_changeStream_34 : decode cX3_changeStream 34 = .ok (.getfield 17, 3) := by decide +kernel
theorem dX3_changeStream_37 : decode cX3_changeStream 37 = .ok (.iload_n 1, 1) := by decide +kernel
theorem dX3_changeStream_38 : decode cX3_changeStream 38 = .ok (.aaload, 1) := by decide +kernel
theorem dX3_changeStream_39 : decode cX3_changeStream 39 = .ok (.getfield 61, 3) := by decide +kernel
theorem dX3_changeStream_42 : decode cX3_changeStream 42 = .ok (.istore 4, 2) := by decide +kernel
theorem dX3_changeStream_44 : decode cX3_changeStream 44 = .ok (.aload_n 0, 1) := by decide +kernel
theorem dX3_changeStream_45 : decode cX3_changeStream 45 = .ok (.getfield 17, 3) := by decide +kernel
theorem dX3_changeStream_48 : decode cX3_changeStream 48 = .ok (.iload_n 1, 1) := by decide +kernel
theorem dX3_changeStream_49 : decode cX3_changeStream 49 = .ok (.aaload, 1) := by decide +kernel
theorem dX3_changeStream_50 : decode cX3_changeStream 50 = .ok (.iload_n 2, 1) := by decide +kernel
theorem dX3_changeStream_51 : decode cX3_changeStream 51 = .ok (.putfield 64, 3) := by decide +kernel
theorem dX3_changeStream_54 : decode cX3_changeStream 54 = .ok (.aload_n 0, 1) := by decide +kernel
theorem dX3_changeStream_55 : decode cX3_changeStream 55 = .ok (.getfield 17, 3) := by decide +kernel
theorem dX3_changeStream_58 : decode cX3_changeStream 58 = .ok (.iload_n 1, 1) := by decide +kernel
theorem dX3_changeStream_59 : decode cX3_changeStream 59 = .ok (.aaload, 1) := by decide +kernel
theorem dX3_changeStream_60 : decode cX3_changeStream 60 = .ok (.iload_n 3, 1) := by decide +kernel
theorem dX3_changeStream_61 : decode cX3_changeStream 61 = .ok (.putfield 61, 3) := by decide +kernel
theorem dX3_changeStream_64 : decode cX3_changeStream 64 = .ok (.iload 4, 2) := by decide +kernel
theorem dX3_changeStream_66 : decode cX3_changeStream 66 = .ok (.ireturn, 1) := by decide +kernel
theorem dX3_bringUnits_0 : decode cX3_bringUnits 0 = .ok (.iload_n 1, 1) := by decide +kernel
theorem dX3_bringUnits_1 : decode cX3_bringUnits 1 = .ok (.invokestatic 57, 3) := by decide +kernel
theorem dX3_bringUnits_4 : decode cX3_bringUnits 4 = .ok (.ifCond .ne 5, 3) := by decide +kernel
theorem dX3_bringUnits_7 : decode cX3_bringUnits 7 = .ok (.iconst (-1), 1) := by decide +kernel
theorem dX3_bringUnits_8 : decode cX3_bringUnits 8 = .ok (.ireturn, 1) := by decide +kernel
theorem dX3_bringUnits_9 : decode cX3_bringUnits 9 = .ok (.iload_n 2, 1) := by decide +kernel
theorem dX3_bringUnits_10 : decode cX3_bringUnits 10 = .ok (.iconst 1, 1) := by decide +kernel
theorem dX3_bringUnits_11 : decode cX3_bringUnits 11 = .ok (.if_icmp .lt 10, 3) := by decide +kernel
theorem dX3_bringUnits_14 : decode cX3_bringUnits 14 = .ok (.iload_n 2, 1) := by decide +kernel
theorem dX3_bringUnits_15 : decode cX3_bringUnits 15 = .ok (.sipush 200, 3) := by decide +kernel
theorem dX3_bringUnits_18 : decode cX3_bringUnits 18 = .ok (.if_icmp .le 6, 3) := by decide +kernel
theorem dX3_bringUnits_21 : decode cX3_bringUnits 21 = .ok (.bipush (-2), 2) := by decide +kernel
theorem dX3_bringUnits_23 : decode cX3_bringUnits 23 = .ok (.ireturn, 1) := by decide +kernel
theorem dX3_bringUnits_24 : decode cX3_bringUnits 24 = .ok (.aload_n 0, 1) := by decide +kernel
theorem dX3_bringUnits_25 : decode cX3_bringUnits 25 = .ok (.getfield 17, 3) := by decide +kernel
theorem dX3_bringUnits_28 : decode cX3_bringUnits 28 = .ok (.iload_n 1, 1) := by decide +kernel
theorem dX3_bringUnits_29 : decode cX3_bringUnits 29 = .ok (.aaload, 1) := by decide +kernel
theorem dX3_bringUnits_30 : decode cX3_bringUnits 30 = .ok (.getfield 67, 3) := by decide +kernel
theorem dX3_bringUnits_33 : decode cX3_bringUnits 33 = .ok (.sipush 9999, 3) := by decide +kernel
theorem dX3_bringUnits_36 : decode cX3_bringUnits 36 = .ok (.iload_n 2, 1) := by decide +kernel
theorem dX3_bringUnits_37 : decode cX3_bringUnits 37 = .ok (.isub, 1) := by decide +kernel
theorem dX3_bringUnits_38 : decode cX3_bringUnits 38 = .ok (.if_icmp .le 6, 3) := by decide +kernel
theorem dX3_bringUnits_41 : decode cX3_bringUnits 41 = .ok (.bipush (-4), 2) := by decide +kernel
theorem dX3_bringUnits_43 : decode cX3_bringUnits 43 = .ok (.ireturn, 1) := by decide +kernel
theorem dX3_bringUnits_44 : decode cX3_bringUnits 44 = .ok (.aload_n 0, 1) := by decide +kernel
theorem dX3_bringUnits_45 : decode cX3_bringUnits 45 = .ok (.getfield 17, 3) := by decide +kernel
theorem dX3_bringUnits_48 : decode cX3_bringUnits 48 = .ok (.iload_n 1, 1) := by decide +kernel
theorem dX3_bringUnits_49 : decode cX3_bringUnits 49 = .ok (.aaload, 1) := by decide +kernel
theorem dX3_bringUnits_50 : decode cX3_bringUnits 50 = .ok (.dup, 1) := by decide +kernel
theorem dX3_bringUnits_51 : decode cX3_bringUnits 51 = .ok (.getfield 67, 3) := by decide +kernel
theorem dX3_bringUnits_54 : decode cX3_bringUnits 54 = .ok (.iload_n 2, 1) := by decide +kernel
theorem dX3_bringUnits_55 : decode cX3_bringUnits 55 = .ok (.iadd, 1) := by decide +kernel
theorem dX3_bringUnits_56 : decode cX3_bringUnits 56 = .ok (.putfield 67, 3) := by decide +kernel
theorem dX3_bringUnits_59 : decode cX3_bringUnits 59 = .ok (.aload_n 0, 1) := by decide +kernel
theorem dX3_bringUnits_60 : decode cX3_bringUnits 60 = .ok (.getfield 17, 3) := by decide +kernel
theorem dX3_bringUnits_63 : decode cX3_bringUnits 63 = .ok (.iload_n 1, 1) := by decide +kernel
theorem dX3_bringUnits_64 : decode cX3_bringUnits 64 = .ok (.aaload, 1) := by decide +kernel
theorem dX3_bringUnits_65 : decode cX3_bringUnits 65 = .ok (.getfield 67, 3) := by decide +kernel
theorem dX3_bringUnits_68 : decode cX3_bringUnits 68 = .ok (.ireturn, 1) := by decide +kernel
theorem dX3_sellHour_0 : decode cX3_sellHour 0 = .ok (.aload_n 0, 1) := by decide +kernel
theorem dX3_sellHour_1 : decode cX3_sellHour 1 = .ok (.iload_n 1, 1) := by decide +kernel
theorem dX3_sellHour_2 : decode cX3_sellHour 2 = .ok (.iload_n 2, 1) := by decide +kernel
theorem dX3_sellHour_3 : decode cX3_sellHour 3 = .ok (.iconst 0, 1) := by decide +kernel
theorem dX3_sellHour_4 : decode cX3_sellHour 4 = .ok (.iconst 1, 1) := by decide +kernel
theorem dX3_sellHour_5 : decode cX3_sellHour 5 = .ok (.invokevirtual 70, 3) := by decide +kernel
theorem dX3_sellHour_8 : decode cX3_sellHour 8 = .ok (.ireturn, 1) := by decide +kernel
theorem dX3_takeHourBack_0 : decode cX3_takeHourBack 0 = .ok (.aload_n 0, 1) := by decide +kernel
theorem dX3_takeHourBack_1 : decode cX3_takeHourBack 1 = .ok (.iload_n 1, 1) := by decide +kernel
theorem dX3_takeHourBack_2 : decode cX3_takeHourBack 2 = .ok (.iload_n 2, 1) := by decide +kernel
theorem dX3_takeHourBack_3 : decode cX3_takeHourBack 3 = .ok (.iconst 1, 1) := by decide +kernel
theorem dX3_takeHourBack_4 : decode cX3_takeHourBack 4 = .ok (.iconst 0, 1) := by decide +kernel
theorem dX3_takeHourBack_5 : decode cX3_takeHourBack 5 = .ok (.invokevirtual 70, 3) := by decide +kernel
theorem dX3_takeHourBack_8 : decode cX3_takeHourBack 8 = .ok (.ireturn, 1) := by decide +kernel
theorem dX3_changeHour_0 : decode cX3_changeHour 0 = .ok (.iload_n 1, 1) := by decide +kernel
theorem dX3_changeHour_1 : decode cX3_changeHour 1 = .ok (.invokestatic 57, 3) := by decide +kernel
theorem dX3_changeHour_4 : decode cX3_changeHour 4 = .ok (.ifCond .ne 5, 3) := by decide +kernel
theorem dX3_changeHour_7 : decode cX3_changeHour 7 = .ok (.iconst (-1), 1) := by decide +kernel
theorem dX3_changeHour_8 : decode cX3_changeHour 8 = .ok (.ireturn, 1) := by decide +kernel
theorem dX3_changeHour_9 : decode cX3_changeHour 9 = .ok (.iload_n 2, 1) := by decide +kernel
theorem dX3_changeHour_10 : decode cX3_changeHour 10 = .ok (.invokestatic 74, 3) := by decide +kernel
theorem dX3_changeHour_13 : decode cX3_changeHour 13 = .ok (.ifCond .ne 6, 3) := by decide +kernel
theorem dX3_changeHour_16 : decode cX3_changeHour 16 = .ok (.bipush (-2), 2) := by decide +kernel
theorem dX3_changeHour_18 : decode cX3_changeHour 18 = .ok (.ireturn, 1) := by decide +kernel
theorem dX3_changeHour_19 : decode cX3_changeHour 19 = .ok (.iload_n 2, 1) := by decide +kernel
theorem dX3_changeHour_20 : decode cX3_changeHour 20 = .ok (.aload_n 0, 1) := by decide +kernel
theorem dX3_changeHour_21 : decode cX3_changeHour 21 = .ok (.invokevirtual 77, 3) := by decide +kernel
theorem dX3_changeHour_24 : decode cX3_changeHour 24 = .ok (.if_icmp .le 17, 3) := by decide +kernel
theorem dX3_changeHour_27 : decode cX3_changeHour 27 = .ok (.aload_n 0, 1) := by decide +kernel
theorem dX3_changeHour_28 : decode cX3_changeHour 28 = .ok (.getfield 17, 3) := by decide +kernel
theorem dX3_changeHour_31 : decode cX3_changeHour 31 = .ok (.iload_n 1, 1) := by decide +kernel
theorem dX3_changeHour_32 : decode cX3_changeHour 32 = .ok (.aaload, 1) := by decide +kernel
theorem dX3_changeHour_33 : decode cX3_changeHour 33 = .ok (.iload_n 2, 1) := by decide +kernel
theorem dX3_changeHour_34 : decode cX3_changeHour 34 = .ok (.invokevirtual 81, 3) := by decide +kernel
theorem dX3_changeHour_37 : decode cX3_changeHour 37 = .ok (.iload_n 3, 1) := by decide +kernel
theorem dX3_changeHour_38 : decode cX3_changeHour 38 = .ok (.if_icmp .eq 6, 3) := by decide +kernel
theorem dX3_changeHour_41 : decode cX3_changeHour 41 = .ok (.bipush (-5), 2) := by decide +kernel
theorem dX3_changeHour_43 : decode cX3_changeHour 43 = .ok (.ireturn, 1) := by decide +kernel
theorem dX3_changeHour_44 : decode cX3_changeHour 44 = .ok (.aload_n 0, 1) := by decide +kernel
theorem dX3_changeHour_45 : decode cX3_changeHour 45 = .ok (.getfield 17, 3) := by decide +kernel
theorem dX3_changeHour_48 : decode cX3_changeHour 48 = .ok (.iload_n 1, 1) := by decide +kernel
theorem dX3_changeHour_49 : decode cX3_changeHour 49 = .ok (.aaload, 1) := by decide +kernel
theorem dX3_changeHour_50 : decode cX3_changeHour 50 = .ok (.iload_n 2, 1) := by decide +kernel
theorem dX3_changeHour_51 : decode cX3_changeHour 51 = .ok (.iload 4, 2) := by decide +kernel
theorem dX3_changeHour_53 : decode cX3_changeHour 53 = .ok (.invokevirtual 85, 3) := by decide +kernel
theorem dX3_changeHour_56 : decode cX3_changeHour 56 = .ok (.aload_n 0, 1) := by decide +kernel
theorem dX3_changeHour_57 : decode cX3_changeHour 57 = .ok (.getfield 17, 3) := by decide +kernel
theorem dX3_changeHour_60 : decode cX3_changeHour 60 = .ok (.iload_n 1, 1) := by decide +kernel
theorem dX3_changeHour_61 : decode cX3_changeHour 61 = .ok (.aaload, 1) := by decide +kernel
theorem dX3_changeHour_62 : decode cX3_changeHour 62 = .ok (.invokevirtual 89, 3) := by decide +kernel
theorem dX3_changeHour_65 : decode cX3_changeHour 65 = .ok (.ireturn, 1) := by decide +kernel
theorem dX3_passMinutes_0 : decode cX3_passMinutes 0 = .ok (.iload_n 1, 1) := by decide +kernel
theorem dX3_passMinutes_1 : decode cX3_passMinutes 1 = .ok (.invokestatic 92, 3) := by decide +kernel
theorem dX3_passMinutes_4 : decode cX3_passMinutes 4 = .ok (.ifCond .ne 6, 3) := by decide +kernel
theorem dX3_passMinutes_7 : decode cX3_passMinutes 7 = .ok (.bipush (-2), 2) := by decide +kernel
theorem dX3_passMinutes_9 : decode cX3_passMinutes 9 = .ok (.ireturn, 1) := by decide +kernel
theorem dX3_passMinutes_10 : decode cX3_passMinutes 10 = .ok (.iconst 0, 1) := by decide +kernel
theorem dX3_passMinutes_11 : decode cX3_passMinutes 11 = .ok (.istore_n 2, 1) := by decide +kernel
theorem dX3_passMinutes_12 : decode cX3_passMinutes 12 = .ok (.iload_n 2, 1) := by decide +kernel
theorem dX3_passMinutes_13 : decode cX3_passMinutes 13 = .ok (.iload_n 1, 1) := by decide +kernel
theorem dX3_passMinutes_14 : decode cX3_passMinutes 14 = .ok (.if_icmp .ge 14, 3) := by decide +kernel
theorem dX3_passMinutes_17 : decode cX3_passMinutes 17 = .ok (.aload_n 0, 1) := by decide +kernel
theorem dX3_passMinutes_18 : decode cX3_passMinutes 18 = .ok (.invokevirtual 95, 3) := by decide +kernel
theorem dX3_passMinutes_21 : decode cX3_passMinutes 21 = .ok (.pop, 1) := by decide +kernel
theorem dX3_passMinutes_22 : decode cX3_passMinutes 22 = .ok (.iinc 2 1, 3) := by decide +kernel
theorem dX3_passMinutes_25 : decode cX3_passMinutes 25 = .ok (.goto (-13), 3) := by decide +kernel
theorem dX3_passMinutes_28 : decode cX3_passMinutes 28 = .ok (.aload_n 0, 1) := by decide +kernel
theorem dX3_passMinutes_29 : decode cX3_passMinutes 29 = .ok (.getfield 35, 3) := by decide +kernel
theorem dX3_passMinutes_32 : decode cX3_passMinutes 32 = .ok (.ireturn, 1) := by decide +kernel
theorem dX3_passOneMinute_0 : decode cX3_passOneMinute 0 = .ok (.iconst 0, 1) := by decide +kernel
theorem dX3_passOneMinute_1 : decode cX3_passOneMinute 1 = .ok (.istore_n 1, 1) := by decide +kernel
theorem dX3_passOneMinute_2 : decode cX3_passOneMinute 2 = .ok (.iconst 0, 1) := by decide +kernel
theorem dX3_passOneMinute_3 : decode cX3_passOneMinute 3 = .ok (.istore_n 2, 1) := by decide +kernel
theorem dX3_passOneMinute_4 : decode cX3_passOneMinute 4 = .ok (.iload_n 2, 1) := by decide +kernel
theorem dX3_passOneMinute_5 : decode cX3_passOneMinute 5 = .ok (.iconst 4, 1) := by decide +kernel
theorem dX3_passOneMinute_6 : decode cX3_passOneMinute 6 = .ok (.if_icmp .ge 33, 3) := by decide +kernel
theorem dX3_passOneMinute_9 : decode cX3_passOneMinute 9 = .ok (.aload_n 0, 1) := by decide +kernel
theorem dX3_passOneMinute_10 : decode cX3_passOneMinute 10 = .ok (.aload_n 0, 1) := by decide +kernel
theorem dX3_passOneMinute_11 : decode cX3_passOneMinute 11 = .ok (.getfield 17, 3) := by decide +kernel
theorem dX3_passOneMinute_14 : decode cX3_passOneMinute 14 = .ok (.iload_n 2, 1) := by decide +kernel
theorem dX3_passOneMinute_15 : decode cX3_passOneMinute 15 = .ok (.aaload, 1) := by decide +kernel
theorem dX3_passOneMinute_16 : decode cX3_passOneMinute 16 = .ok (.aload_n 0, 1) := by decide +kernel
theorem dX3_passOneMinute_17 : decode cX3_passOneMinute 17 = .ok (.getfield 17, 3) := by decide +kernel
theorem dX3_passOneMinute_20 : decode cX3_passOneMinute 20 = .ok (.iload_n 2, 1) := by decide +kernel
theorem dX3_passOneMinute_21 : decode cX3_passOneMinute 21 = .ok (.invokestatic 99, 3) := by decide +kernel
theorem dX3_passOneMinute_24 : decode cX3_passOneMinute 24 = .ok (.aaload, 1) := by decide +kernel
theorem dX3_passOneMinute_25 : decode cX3_passOneMinute 25 = .ok (.invokevirtual 102, 3) := by decide +kernel
theorem dX3_passOneMinute_28 : decode cX3_passOneMinute 28 = .ok (.ifCond .eq 5, 3) := by decide +kernel
theorem dX3_passOneMinute_31 : decode cX3_passOneMinute 31 = .ok (.iconst 1, 1) := by decide +kernel
theorem dX3_passOneMinute_32 : decode cX3_passOneMinute 32 = .ok (.istore_n 1, 1) := by decide +kernel
theorem dX3_passOneMinute_33 : decode cX3_passOneMinute 33 = .ok (.iinc 2 1, 3) := by decide +kernel
theorem dX3_passOneMinute_36 : decode cX3_passOneMinute 36 = .ok (.goto (-32), 3) := by decide +kernel
theorem dX3_passOneMinute_39 : decode cX3_passOneMinute 39 = .ok (.aload_n 0, 1) := by decide +kernel
theorem dX3_passOneMinute_40 : decode cX3_passOneMinute 40 = .ok (.dup, 1) := by decide +kernel
theorem dX3_passOneMinute_41 : decode cX3_passOneMinute 41 = .ok (.getfield 35, 3) := by decide +kernel
theorem dX3_passOneMinute_44 : decode cX3_passOneMinute 44 = .ok (.iconst 1, 1) := by decide +kernel
theorem dX3_passOneMinute_45 : decode cX3_passOneMinute 45 = .ok (.iadd, 1) := by decide +kernel
theorem dX3_passOneMinute_46 : decode cX3_passOneMinute 46 = .ok (.putfield 35, 3) := by decide +kernel
theorem dX3_passOneMinute_49 : decode cX3_passOneMinute 49 = .ok (.iload_n 1, 1) := by decide +kernel
theorem dX3_passOneMinute_50 : decode cX3_passOneMinute 50 = .ok (.ireturn, 1) := by decide +kernel
theorem dX3_passMinuteOf_0 : decode cX3_passMinuteOf 0 = .ok (.aload_n 0, 1) := by decide +kernel
theorem dX3_passMinuteOf_1 : decode cX3_passMinuteOf 1 = .ok (.invokevirtual 77, 3) := by decide +kernel
theorem dX3_passMinuteOf_4 : decode cX3_passMinuteOf 4 = .ok (.istore_n 3, 1) := by decide +kernel
theorem dX3_passMinuteOf_5 : decode cX3_passMinuteOf 5 = .ok (.aload_n 1, 1) := by decide +kernel
theorem dX3_passMinuteOf_6 : decode cX3_passMinuteOf 6 = .ok (.iload_n 3, 1) := by decide +kernel
theorem dX3_passMinuteOf_7 : decode cX3_passMinuteOf 7 = .ok (.invokevirtual 106, 3) := by decide +kernel
theorem dX3_passMinuteOf_10 : decode cX3_passMinuteOf 10 = .ok (.istore 4, 2) := by decide +kernel
theorem dX3_passMinuteOf_12 : decode cX3_passMinuteOf 12 = .ok (.aload_n 0, 1) := by decide +kernel
theorem dX3_passMinuteOf_13 : decode cX3_passMinuteOf 13 = .ok (.getfield 35, 3) := by decide +kernel
theorem dX3_passMinuteOf_16 : decode cX3_passMinuteOf 16 = .ok (.bipush 60, 2) := by decide +kernel
theorem dX3_passMinuteOf_18 : decode cX3_passMinuteOf 18 = .ok (.irem, 1) := by decide +kernel
theorem dX3_passMinuteOf_19 : decode cX3_passMinuteOf 19 = .ok (.ifCond .ne 11, 3) := by decide +kernel
theorem dX3_passMinuteOf_22 : decode cX3_passMinuteOf 22 = .ok (.aload_n 0, 1) := by decide +kernel
theorem dX3_passMinuteOf_23 : decode cX3_passMinuteOf 23 = .ok (.aload_n 1, 1) := by decide +kernel
theorem dX3_passMinuteOf_24 : decode cX3_passMinuteOf 24 = .ok (.iload_n 3, 1) := by decide +kernel
theorem dX3_passMinuteOf_25 : decode cX3_passMinuteOf 25 = .ok (.iload 4, 2) := by decide +kernel
theorem dX3_passMinuteOf_27 : decode cX3_passMinuteOf 27 = .ok (.invokevirtual 109, 3) := by decide +kernel
theorem dX3_passMinuteOf_30 : decode cX3_passMinuteOf 30 = .ok (.aload_n 1, 1) := by decide +kernel
theorem dX3_passMinuteOf_31 : decode cX3_passMinuteOf 31 = .ok (.aload_n 0, 1) := by decide +kernel
theorem dX3_passMinuteOf_32 : decode cX3_passMinuteOf 32 = .ok (.getfield 35, 3) := by decide +kernel
theorem dX3_passMinuteOf_35 : decode cX3_passMinuteOf 35 = .ok (.invokevirtual 113, 3) := by decide +kernel
theorem dX3_passMinuteOf_38 : decode cX3_passMinuteOf 38 = .ok (.iload 4, 2) := by decide +kernel
theorem dX3_passMinuteOf_40 : decode cX3_passMinuteOf 40 = .ok (.ifCond .ne 8, 3) := by decide +kernel
theorem dX3_passMinuteOf_43 : decode cX3_passMinuteOf 43 = .ok (.aload_n 1, 1) := by decide +kernel
theorem dX3_passMinuteOf_44 : decode cX3_passMinuteOf 44 = .ok (.aload_n 2, 1) := by decide +kernel
theorem dX3_passMinuteOf_45 : decode cX3_passMinuteOf 45 = .ok (.invokevirtual 117, 3) := by decide +kernel
theorem dX3_passMinuteOf_48 : decode cX3_passMinuteOf 48 = .ok (.aload_n 1, 1) := by decide +kernel
theorem dX3_passMinuteOf_49 : decode cX3_passMinuteOf 49 = .ok (.invokevirtual 120, 3) := by decide +kernel
theorem dX3_passMinuteOf_52 : decode cX3_passMinuteOf 52 = .ok (.iload 4, 2) := by decide +kernel
theorem dX3_passMinuteOf_54 : decode cX3_passMinuteOf 54 = .ok (.ifCond .eq 23, 3) := by decide +kernel
theorem dX3_passMinuteOf_57 : decode cX3_passMinuteOf 57 = .ok (.aload_n 2, 1) := by decide +kernel
theorem dX3_passMinuteOf_58 : decode cX3_passMinuteOf 58 = .ok (.iload_n 3, 1) := by decide +kernel
theorem dX3_passMinuteOf_59 : decode cX3_passMinuteOf 59 = .ok (.invokevirtual 106, 3) := by decide +kernel
theorem dX3_passMinuteOf_62 : decode cX3_passMinuteOf 62 = .ok (.ifCond .ne 15, 3) := by decide +kernel
theorem dX3_passMinuteOf_65 : decode cX3_passMinuteOf 65 = .ok (.aload_n 1, 1) := by decide +kernel
theorem dX3_passMinuteOf_66 : decode cX3_passMinuteOf 66 = .ok (.aload_n 2, 1) := by decide +kernel
theorem dX3_passMinuteOf_67 : decode cX3_passMinuteOf 67 = .ok (.aload_n 0, 1) := by decide +kernel
theorem dX3_passMinuteOf_68 : decode cX3_passMinuteOf 68 = .ok (.getfield 9, 3) := by decide +kernel
theorem dX3_passMinuteOf_71 : decode cX3_passMinuteOf 71 = .ok (.bipush 6, 2) := by decide +kernel
theorem dX3_passMinuteOf_73 : decode cX3_passMinuteOf 73 = .ok (.iaload, 1) := by decide +kernel
theorem dX3_passMinuteOf_74 : decode cX3_passMinuteOf 74 = .ok (.invokevirtual 123, 3) := by decide +kernel
theorem dX3_passMinuteOf_77 : decode cX3_passMinuteOf 77 = .ok (.aload_n 0, 1) := by decide +kernel
theorem dX3_passMinuteOf_78 : decode cX3_passMinuteOf 78 = .ok (.aload_n 1, 1) := by decide +kernel
theorem dX3_passMinuteOf_79 : decode cX3_passMinuteOf 79 = .ok (.iload 4, 2) := by decide +kernel
theorem dX3_passMinuteOf_81 : decode cX3_passMinuteOf 81 = .ok (.invokevirtual 127, 3) := by decide +kernel
theorem dX3_passMinuteOf_84 : decode cX3_passMinuteOf 84 = .ok (.istore 5, 2) := by decide +kernel
theorem dX3_passMinuteOf_86 : decode cX3_passMinuteOf 86 = .ok (.iload 5, 2) := by decide +kernel
theorem dX3_passMinuteOf_88 : decode cX3_passMinuteOf 88 = .ok (.ifCond .eq 14, 3) := by decide +kernel
theorem dX3_passMinuteOf_91 : decode cX3_passMinuteOf 91 = .ok (.iload 4, 2) := by decide +kernel
theorem dX3_passMinuteOf_93 : decode cX3_passMinuteOf 93 = .ok (.ifCond .eq 9, 3) := by decide +kernel
theorem dX3_passMinuteOf_96 : decode cX3_passMinuteOf 96 = .ok (.aload_n 0, 1) := by decide +kernel
theorem dX3_passMinuteOf_97 : decode cX3_passMinuteOf 97 = .ok (.aload_n 1, 1) := by decide +kernel
theorem dX3_passMinuteOf_98 : decode cX3_passMinuteOf 98 = .ok (.iload_n 3, 1) := by decide +kernel
theorem dX3_passMinuteOf_99 : decode cX3_passMinuteOf 99 = .ok (.invokevirtual 131, 3) := by decide +kernel
theorem dX3_passMinuteOf_102 : decode cX3_passMinuteOf 102 = .ok (.aload_n 1, 1) := by decide +kernel
theorem dX3_passMinuteOf_103 : decode cX3_passMinuteOf 103 = .ok (.dup, 1) := by decide +kernel
theorem dX3_passMinuteOf_104 : decode cX3_passMinuteOf 104 = .ok (.getfield 134, 3) := by decide +kernel
theorem dX3_passMinuteOf_107 : decode cX3_passMinuteOf 107 = .ok (.aload_n 1, 1) := by decide +kernel
theorem dX3_passMinuteOf_108 : decode cX3_passMinuteOf 108 = .ok (.getfield 67, 3) := by decide +kernel
theorem dX3_passMinuteOf_111 : decode cX3_passMinuteOf 111 = .ok (.i2l, 1) := by decide +kernel
theorem dX3_passMinuteOf_112 : decode cX3_passMinuteOf 112 = .ok (.ladd, 1) := by decide +kernel
theorem dX3_passMinuteOf_113 : decode cX3_passMinuteOf 113 = .ok (.putfield 134, 3) := by decide +kernel
theorem dX3_passMinuteOf_116 : decode cX3_passMinuteOf 116 = .ok (.iload 5, 2) := by decide +kernel
theorem dX3_passMinuteOf_118 : decode cX3_passMinuteOf 118 = .ok (.ifCond .eq 12, 3) := by decide +kernel
theorem dX3_passMinuteOf_121 : decode cX3_passMinuteOf 121 = .ok (.iload 4, 2) := by decide +kernel
theorem dX3_passMinuteOf_123 : decode cX3_passMinuteOf 123 = .ok (.ifCond .eq 7, 3) := by decide +kernel
theorem dX3_passMinuteOf_126 : decode cX3_passMinuteOf 126 = .ok (.iconst 1, 1) := by decide +kernel
theorem dX3_passMinuteOf_127 : decode cX3_passMinuteOf 127 = .ok (.goto 4, 3) := by decide +kernel
theorem dX3_passMinuteOf_130 : decode cX3_passMinuteOf 130 = .ok (.iconst 0, 1) := by decide +kernel
theorem dX3_passMinuteOf_131 : decode cX3_passMinuteOf 131 = .ok (.ireturn, 1) := by decide +kernel
theorem dX3_settleHours_0 : decode cX3_settleHours 0 = .ok (.aload_n 1, 1) := by decide +kernel
theorem dX3_settleHours_1 : decode cX3_settleHours 1 = .ok (.iload_n 2, 1) := by decide +kernel
theorem dX3_settleHours_2 : decode cX3_settleHours 2 = .ok (.iconst 1, 1) := by decide +kernel
theorem dX3_settleHours_3 : decode cX3_settleHours 3 = .ok (.isub, 1) := by decide +kernel
theorem dX3_settleHours_4 : decode cX3_settleHours 4 = .ok (.invokevirtual 81, 3) := by decide +kernel
theorem dX3_settleHours_7 : decode cX3_settleHours 7 = .ok (.iconst 1, 1) := by decide +kernel
theorem dX3_settleHours_8 : decode cX3_settleHours 8 = .ok (.if_icmp .ne 26, 3) := by decide +kernel
theorem dX3_settleHours_11 : decode cX3_settleHours 11 = .ok (.aload_n 1, 1) := by decide +kernel
theorem dX3_settleHours_12 : decode cX3_settleHours 12 = .ok (.iload_n 2, 1) := by decide +kernel
theorem dX3_settleHours_13 : decode cX3_settleHours 13 = .ok (.iconst 1, 1) := by decide +kernel
theorem dX3_settleHours_14 : decode cX3_settleHours 14 = .ok (.isub, 1) := by decide +kernel
theorem dX3_settleHours_15 : decode cX3_settleHours 15 = .ok (.iconst 2, 1) := by decide +kernel
theorem dX3_settleHours_16 : decode cX3_settleHours 16 = .ok (.invokevirtual 85, 3) := by decide +kernel
theorem dX3_settleHours_19 : decode cX3_settleHours 19 = .ok (.aload_n 0, 1) := by decide +kernel
theorem dX3_settleHours_20 : decode cX3_settleHours 20 = .ok (.dup, 1) := by decide +kernel
theorem dX3_settleHours_21 : decode cX3_settleHours 21 = .ok (.getfield 45, 3) := by decide +kernel
theorem dX3_settleHours_24 : decode cX3_settleHours 24 = .ok (.aload_n 0, 1) := by decide +kernel
theorem dX3_settleHours_25 : decode cX3_settleHours 25 = .ok (.getfield 9, 3) := by decide +kernel
theorem dX3_settleHours_28 : decode cX3_settleHours 28 = .ok (.iconst 2, 1) := by decide +kernel
