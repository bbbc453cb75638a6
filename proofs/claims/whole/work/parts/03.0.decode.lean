theorem dX0_init_0 : decode cX0_init 0 = .ok (.aload_n 0, 1) := by decide +kernel
theorem dX0_init_1 : decode cX0_init 1 = .ok (.invokespecial 3, 3) := by decide +kernel
theorem dX0_init_4 : decode cX0_init 4 = .ok (.aload_n 0, 1) := by decide +kernel
theorem dX0_init_5 : decode cX0_init 5 = .ok (.bipush 60, 2) := by decide +kernel
theorem dX0_init_7 : decode cX0_init 7 = .ok (.putfield 9, 3) := by decide +kernel
theorem dX0_init_10 : decode cX0_init 10 = .ok (.aload_n 0, 1) := by decide +kernel
theorem dX0_init_11 : decode cX0_init 11 = .ok (.iconst 1, 1) := by decide +kernel
theorem dX0_init_12 : decode cX0_init 12 = .ok (.putfield 15, 3) := by decide +kernel
theorem dX0_init_15 : decode cX0_init 15 = .ok (.aload_n 0, 1) := by decide +kernel
theorem dX0_init_16 : decode cX0_init 16 = .ok (.bipush 100, 2) := by decide +kernel
theorem dX0_init_18 : decode cX0_init 18 = .ok (.newarray .byte, 2) := by decide +kernel
theorem dX0_init_20 : decode cX0_init 20 = .ok (.putfield 18, 3) := by decide +kernel
theorem dX0_init_23 : decode cX0_init 23 = .ok (.return_, 1) := by decide +kernel
theorem dX0_copyFrom_0 : decode cX0_copyFrom 0 = .ok (.aload_n 0, 1) := by decide +kernel
theorem dX0_copyFrom_1 : decode cX0_copyFrom 1 = .ok (.aload_n 1, 1) := by decide +kernel
theorem dX0_copyFrom_2 : decode cX0_copyFrom 2 = .ok (.getfield 9, 3) := by decide +kernel
theorem dX0_copyFrom_5 : decode cX0_copyFrom 5 = .ok (.putfield 9, 3) := by decide +kernel
theorem dX0_copyFrom_8 : decode cX0_copyFrom 8 = .ok (.aload_n 0, 1) := by decide +kernel
theorem dX0_copyFrom_9 : decode cX0_copyFrom 9 = .ok (.aload_n 1, 1) := by decide +kernel
theorem dX0_copyFrom_10 : decode cX0_copyFrom 10 = .ok (.getfield 22, 3) := by decide +kernel
theorem dX0_copyFrom_13 : decode cX0_copyFrom 13 = .ok (.putfield 22, 3) := by decide +kernel
theorem dX0_copyFrom_16 : decode cX0_copyFrom 16 = .ok (.aload_n 0, 1) := by decide +kernel
theorem dX0_copyFrom_17 : decode cX0_copyFrom 17 = .ok (.aload_n 1, 1) := by decide +kernel
theorem dX0_copyFrom_18 : decode cX0_copyFrom 18 = .ok (.getfield 25, 3) := by decide +kernel
theorem dX0_copyFrom_21 : decode cX0_copyFrom 21 = .ok (.putfield 25, 3) := by decide +kernel
theorem dX0_copyFrom_24 : decode cX0_copyFrom 24 = .ok (.aload_n 0, 1) := by decide +kernel
theorem dX0_copyFrom_25 : decode cX0_copyFrom 25 = .ok (.aload_n 1, 1) := by decide +kernel
theorem dX0_copyFrom_26 : decode cX0_copyFrom 26 = .ok (.getfield 28, 3) := by decide +kernel
theorem dX0_copyFrom_29 : decode cX0_copyFrom 29 = .ok (.putfield 28, 3) := by decide +kernel
theorem dX0_copyFrom_32 : decode cX0_copyFrom 32 = .ok (.aload_n 0, 1) := by decide +kernel
theorem dX0_copyFrom_33 : decode cX0_copyFrom 33 = .ok (.aload_n 1, 1) := by decide +kernel
theorem dX0_copyFrom_34 : decode cX0_copyFrom 34 = .ok (.getfield 31, 3) := by decide +kernel
theorem dX0_copyFrom_37 : decode cX0_copyFrom 37 = .ok (.putfield 31, 3) := by decide +kernel
theorem dX0_copyFrom_40 : decode cX0_copyFrom 40 = .ok (.aload_n 0, 1) := by decide +kernel
theorem dX0_copyFrom_41 : decode cX0_copyFrom 41 = .ok (.aload_n 1, 1) := by decide +kernel
theorem dX0_copyFrom_42 : decode cX0_copyFrom 42 = .ok (.getfield 35, 3) := by decide +kernel
theorem dX0_copyFrom_45 : decode cX0_copyFrom 45 = .ok (.putfield 35, 3) := by decide +kernel
theorem dX0_copyFrom_48 : decode cX0_copyFrom 48 = .ok (.aload_n 0, 1) := by decide +kernel
theorem dX0_copyFrom_49 : decode cX0_copyFrom 49 = .ok (.aload_n 1, 1) := by decide +kernel
theorem dX0_copyFrom_50 : decode cX0_copyFrom 50 = .ok (.getfield 38, 3) := by decide +kernel
theorem dX0_copyFrom_53 : decode cX0_copyFrom 53 = .ok (.putfield 38, 3) := by decide +kernel
theorem dX0_copyFrom_56 : decode cX0_copyFrom 56 = .ok (.aload_n 0, 1) := by decide +kernel
theorem dX0_copyFrom_57 : decode cX0_copyFrom 57 = .ok (.aload_n 1, 1) := by decide +kernel
theorem dX0_copyFrom_58 : decode cX0_copyFrom 58 = .ok (.getfield 41, 3) := by decide +kernel
theorem dX0_copyFrom_61 : decode cX0_copyFrom 61 = .ok (.putfield 41, 3) := by decide +kernel
theorem dX0_copyFrom_64 : decode cX0_copyFrom 64 = .ok (.aload_n 0, 1) := by decide +kernel
theorem dX0_copyFrom_65 : decode cX0_copyFrom 65 = .ok (.aload_n 1, 1) := by decide +kernel
theorem dX0_copyFrom_66 : decode cX0_copyFrom 66 = .ok (.getfield 15, 3) := by decide +kernel
theorem dX0_copyFrom_69 : decode cX0_copyFrom 69 = .ok (.putfield 15, 3) := by decide +kernel
theorem dX0_copyFrom_72 : decode cX0_copyFrom 72 = .ok (.aload_n 0, 1) := by decide +kernel
theorem dX0_copyFrom_73 : decode cX0_copyFrom 73 = .ok (.aload_n 1, 1) := by decide +kernel
theorem dX0_copyFrom_74 : decode cX0_copyFrom 74 = .ok (.getfield 44, 3) := by decide +kernel
theorem dX0_copyFrom_77 : decode cX0_copyFrom 77 = .ok (.putfield 44, 3) := by decide +kernel
theorem dX0_copyFrom_80 : decode cX0_copyFrom 80 = .ok (.aload_n 0, 1) := by decide +kernel
theorem dX0_copyFrom_81 : decode cX0_copyFrom 81 = .ok (.aload_n 1, 1) := by decide +kernel
theorem dX0_copyFrom_82 : decode cX0_copyFrom 82 = .ok (.getfield 47, 3) := by decide +kernel
theorem dX0_copyFrom_85 : decode cX0_copyFrom 85 = .ok (.putfield 47, 3) := by decide +kernel
theorem dX0_copyFrom_88 : decode cX0_copyFrom 88 = .ok (.aload_n 1, 1) := by decide +kernel
theorem dX0_copyFrom_89 : decode cX0_copyFrom 89 = .ok (.getfield 18, 3) := by decide +kernel
theorem dX0_copyFrom_92 : decode cX0_copyFrom 92 = .ok (.iconst 0, 1) := by decide +kernel
theorem dX0_copyFrom_93 : decode cX0_copyFrom 93 = .ok (.aload_n 0, 1) := by decide +kernel
theorem dX0_copyFrom_94 : decode cX0_copyFrom 94 = .ok (.getfield 18, 3) := by decide +kernel
theorem dX0_copyFrom_97 : decode cX0_copyFrom 97 = .ok (.iconst 0, 1) := by decide +kernel
theorem dX0_copyFrom_98 : decode cX0_copyFrom 98 = .ok (.bipush 100, 2) := by decide +kernel
theorem dX0_copyFrom_100 : decode cX0_copyFrom 100 = .ok (.invokestatic 51, 3) := by decide +kernel
theorem dX0_copyFrom_103 : decode cX0_copyFrom 103 = .ok (.return_, 1) := by decide +kernel
theorem dX0_hourState_0 : decode cX0_hourState 0 = .ok (.iload_n 1, 1) := by decide +kernel
theorem dX0_hourState_1 : decode cX0_hourState 1 = .ok (.invokestatic 57, 3) := by decide +kernel
theorem dX0_hourState_4 : decode cX0_hourState 4 = .ok (.ifCond .eq 12, 3) := by decide +kernel
theorem dX0_hourState_7 : decode cX0_hourState 7 = .ok (.aload_n 0, 1) := by decide +kernel
theorem dX0_hourState_8 : decode cX0_hourState 8 = .ok (.getfield 18, 3) := by decide +kernel
theorem dX0_hourState_11 : decode cX0_hourState 11 = .ok (.iload_n 1, 1) := by decide +kernel
theorem dX0_hourState_12 : decode cX0_hourState 12 = .ok (.baload, 1) := by decide +kernel
theorem dX0_hourState_13 : decode cX0_hourState 13 = .ok (.goto 4, 3) := by decide +kernel
theorem dX0_hourState_16 : decode cX0_hourState 16 = .ok (.iconst 0, 1) := by decide +kernel
theorem dX0_hourState_17 : decode cX0_hourState 17 = .ok (.ireturn, 1) := by decide +kernel
theorem dX0_markHour_0 : decode cX0_markHour 0 = .ok (.iload_n 1, 1) := by decide +kernel
theorem dX0_markHour_1 : decode cX0_markHour 1 = .ok (.invokestatic 57, 3) := by decide +kernel
theorem dX0_markHour_4 : decode cX0_markHour 4 = .ok (.ifCond .eq 11, 3) := by decide +kernel
theorem dX0_markHour_7 : decode cX0_markHour 7 = .ok (.aload_n 0, 1) := by decide +kernel
theorem dX0_markHour_8 : decode cX0_markHour 8 = .ok (.getfield 18, 3) := by decide +kernel
theorem dX0_markHour_11 : decode cX0_markHour 11 = .ok (.iload_n 1, 1) := by decide +kernel
theorem dX0_markHour_12 : decode cX0_markHour 12 = .ok (.iload_n 2, 1) := by decide +kernel
theorem dX0_markHour_13 : decode cX0_markHour 13 = .ok (.i2b, 1) := by decide +kernel
theorem dX0_markHour_14 : decode cX0_markHour 14 = .ok (.bastore, 1) := by decide +kernel
theorem dX0_markHour_15 : decode cX0_markHour 15 = .ok (.return_, 1) := by decide +kernel
theorem dX0_isQuietIn_0 : decode cX0_isQuietIn 0 = .ok (.aload_n 0, 1) := by decide +kernel
theorem dX0_isQuietIn_1 : decode cX0_isQuietIn 1 = .ok (.iload_n 1, 1) := by decide +kernel
theorem dX0_isQuietIn_2 : decode cX0_isQuietIn 2 = .ok (.invokevirtual 61, 3) := by decide +kernel
theorem dX0_isQuietIn_5 : decode cX0_isQuietIn 5 = .ok (.ifCond .eq 7, 3) := by decide +kernel
theorem dX0_isQuietIn_8 : decode cX0_isQuietIn 8 = .ok (.iconst 1, 1) := by decide +kernel
theorem dX0_isQuietIn_9 : decode cX0_isQuietIn 9 = .ok (.goto 4, 3) := by decide +kernel
theorem dX0_isQuietIn_12 : decode cX0_isQuietIn 12 = .ok (.iconst 0, 1) := by decide +kernel
theorem dX0_isQuietIn_13 : decode cX0_isQuietIn 13 = .ok (.ireturn, 1) := by decide +kernel
theorem dX0_hoursThatAre_0 : decode cX0_hoursThatAre 0 = .ok (.iconst 0, 1) := by decide +kernel
theorem dX0_hoursThatAre_1 : decode cX0_hoursThatAre 1 = .ok (.istore_n 2, 1) := by decide +kernel
theorem dX0_hoursThatAre_2 : decode cX0_hoursThatAre 2 = .ok (.iconst 0, 1) := by decide +kernel
theorem dX0_hoursThatAre_3 : decode cX0_hoursThatAre 3 = .ok (.istore_n 3, 1) := by decide +kernel
theorem dX0_hoursThatAre_4 : decode cX0_hoursThatAre 4 = .ok (.iload_n 3, 1) := by decide +kernel
theorem dX0_hoursThatAre_5 : decode cX0_hoursThatAre 5 = .ok (.bipush 100, 2) := by decide +kernel
theorem dX0_hoursThatAre_7 : decode cX0_hoursThatAre 7 = .ok (.if_icmp .ge 22, 3) := by decide +kernel
theorem dX0_hoursThatAre_10 : decode cX0_hoursThatAre 10 = .ok (.aload_n 0, 1) := by decide +kernel
theorem dX0_hoursThatAre_11 : decode cX0_hoursThatAre 11 = .ok (.getfield 18, 3) := by decide +kernel
theorem dX0_hoursThatAre_14 : decode cX0_hoursThatAre 14 = .ok (.iload_n 3, 1) := by decide +kernel
theorem dX0_hoursThatAre_15 : decode cX0_hoursThatAre 15 = .ok (.baload, 1) := by decide +kernel
theorem dX0_hoursThatAre_16 : decode cX0_hoursThatAre 16 = .ok (.iload_n 1, 1) := by decide +kernel
theorem dX0_hoursThatAre_17 : decode cX0_hoursThatAre 17 = .ok (.if_icmp .ne 6, 3) := by decide +kernel
theorem dX0_hoursThatAre_20 : decode cX0_hoursThatAre 20 = .ok (.iinc 2 1, 3) := by decide +kernel
theorem dX0_hoursThatAre_23 : decode cX0_hoursThatAre 23 = .ok (.iinc 3 1, 3) := by decide +kernel
theorem dX0_hoursThatAre_26 : decode cX0_hoursThatAre 26 = .ok (.goto (-22), 3) := by decide +kernel
theorem dX0_hoursThatAre_29 : decode cX0_hoursThatAre 29 = .ok (.iload_n 2, 1) := by decide +kernel
theorem dX0_hoursThatAre_30 : decode cX0_hoursThatAre 30 = .ok (.ireturn, 1) := by decide +kernel
theorem dX0_soldHours_0 : decode cX0_soldHours 0 = .ok (.bipush 100, 2) := by decide +kernel
theorem dX0_soldHours_2 : decode cX0_soldHours 2 = .ok (.aload_n 0, 1) := by decide +kernel
theorem dX0_soldHours_3 : decode cX0_soldHours 3 = .ok (.iconst 0, 1) := by decide +kernel
theorem dX0_soldHours_4 : decode cX0_soldHours 4 = .ok (.invokevirtual 65, 3) := by decide +kernel
theorem dX0_soldHours_7 : decode cX0_soldHours 7 = .ok (.isub, 1) := by decide +kernel
theorem dX0_soldHours_8 : decode cX0_soldHours 8 = .ok (.ireturn, 1) := by decide +kernel
theorem dX0_keptInARow_0 : decode cX0_keptInARow 0 = .ok (.iconst 0, 1) := by decide +kernel
theorem dX0_keptInARow_1 : decode cX0_keptInARow 1 = .ok (.istore_n 1, 1) := by decide +kernel
theorem dX0_keptInARow_2 : decode cX0_keptInARow 2 = .ok (.bipush 99, 2) := by decide +kernel
theorem dX0_keptInARow_4 : decode cX0_keptInARow 4 = .ok (.istore_n 2, 1) := by decide +kernel
theorem dX0_keptInARow_5 : decode cX0_keptInARow 5 = .ok (.iload_n 2, 1) := by decide +kernel
theorem dX0_keptInARow_6 : decode cX0_keptInARow 6 = .ok (.ifCond .lt 32, 3) := by decide +kernel
theorem dX0_keptInARow_9 : decode cX0_keptInARow 9 = .ok (.aload_n 0, 1) := by decide +kernel
theorem dX0_keptInARow_10 : decode cX0_keptInARow 10 = .ok (.getfield 18, 3) := by decide +kernel
theorem dX0_keptInARow_13 : decode cX0_keptInARow 13 = .ok (.iload_n 2, 1) := by decide +kernel
theorem dX0_keptInARow_14 : decode cX0_keptInARow 14 = .ok (.baload, 1) := by decide +kernel
theorem dX0_keptInARow_15 : decode cX0_keptInARow 15 = .ok (.iconst 3, 1) := by decide +kernel
theorem dX0_keptInARow_16 : decode cX0_keptInARow 16 = .ok (.if_icmp .eq 22, 3) := by decide +kernel
theorem dX0_keptInARow_19 : decode cX0_keptInARow 19 = .ok (.aload_n 0, 1) := by decide +kernel
theorem dX0_keptInARow_20 : decode cX0_keptInARow 20 = .ok (.getfield 18, 3) := by decide +kernel
theorem dX0_keptInARow_23 : decode cX0_keptInARow 23 = .ok (.iload_n 2, 1) := by decide +kernel
theorem dX0_keptInARow_24 : decode cX0_keptInARow 24 = .ok (.baload, 1) := by decide +kernel
theorem dX0_keptInARow_25 : decode cX0_keptInARow 25 = .ok (.iconst 2, 1) := by decide +kernel
theorem dX0_keptInARow_26 : decode cX0_keptInARow 26 = .ok (.if_icmp .ne 6, 3) := by decide +kernel
theorem dX0_keptInARow_29 : decode cX0_keptInARow 29 = .ok (.iinc 1 1, 3) := by decide +kernel
theorem dX0_keptInARow_32 : decode cX0_keptInARow 32 = .ok (.iinc 2 (-1), 3) := by decide +kernel
theorem dX0_keptInARow_35 : decode cX0_keptInARow 35 = .ok (.goto (-30), 3) := by decide +kernel
theorem dX0_keptInARow_38 : decode cX0_keptInARow 38 = .ok (.iload_n 1, 1) := by decide +kernel
theorem dX0_keptInARow_39 : decode cX0_keptInARow 39 = .ok (.ireturn, 1) := by decide +kernel
theorem dX0_takeStream_0 : decode cX0_takeStream 0 = .ok (.aload_n 0, 1) := by decide +kernel
theorem dX0_takeStream_1 : decode cX0_takeStream 1 = .ok (.getfield 15, 3) := by decide +kernel
theorem dX0_takeStream_4 : decode cX0_takeStream 4 = .ok (.ifCond .le 25, 3) := by decide +kernel
theorem dX0_takeStream_7 : decode cX0_takeStream 7 = .ok (.iload_n 1, 1) := by decide +kernel
theorem dX0_takeStream_8 : decode cX0_takeStream 8 = .ok (.aload_n 0, 1) := by decide +kernel
theorem dX0_takeStream_9 : decode cX0_takeStream 9 = .ok (.getfield 15, 3) := by decide +kernel
theorem dX0_takeStream_12 : decode cX0_takeStream 12 = .ok (.irem, 1) := by decide +kernel
theorem dX0_takeStream_13 : decode cX0_takeStream 13 = .ok (.ifCond .ne 16, 3) := by decide +kernel
theorem dX0_takeStream_16 : decode cX0_takeStream 16 = .ok (.aload_n 0, 1) := by decide +kernel
theorem dX0_takeStream_17 : decode cX0_takeStream 17 = .ok (.dup, 1) := by decide +kernel
theorem dX0_takeStream_18 : decode cX0_takeStream 18 = .ok (.getfield 28, 3) := by decide +kernel
theorem dX0_takeStream_21 : decode cX0_takeStream 21 = .ok (.aload_n 0, 1) := by decide +kernel
theorem dX0_takeStream_22 : decode cX0_takeStream 22 = .ok (.getfield 44, 3) := by decide +kernel
theorem dX0_takeStream_25 : decode cX0_takeStream 25 = .ok (.iadd, 1) := by decide +kernel
theorem dX0_takeStream_26 : decode cX0_takeStream 26 = .ok (.putfield 28, 3) := by decide +kernel
theorem dX0_takeStream_29 : decode cX0_takeStream 29 = .ok (.return_, 1) := by decide +kernel
theorem dX0_takeBackFrom_0 : decode cX0_takeBackFrom 0 = .ok (.aload_n 1, 1) := by decide +kernel
theorem dX0_takeBackFrom_1 : decode cX0_takeBackFrom 1 = .ok (.getfield 25, 3) := by decide +kernel
theorem dX0_takeBackFrom_4 : decode cX0_takeBackFrom 4 = .ok (.aload_n 0, 1) := by decide +kernel
theorem dX0_takeBackFrom_5 : decode cX0_takeBackFrom 5 = .ok (.getfield 9, 3) := by decide +kernel
theorem dX0_takeBackFrom_8 : decode cX0_takeBackFrom 8 = .ok (.invokestatic 68, 3) := by decide +kernel
theorem dX0_takeBackFrom_11 : decode cX0_takeBackFrom 11 = .ok (.istore_n 2, 1) := by decide +kernel
theorem dX0_takeBackFrom_12 : decode cX0_takeBackFrom 12 = .ok (.aload_n 1, 1) := by decide +kernel
theorem dX0_takeBackFrom_13 : decode cX0_takeBackFrom 13 = .ok (.dup, 1) := by decide +kernel
theorem dX0_takeBackFrom_14 : decode cX0_takeBackFrom 14 = .ok (.getfield 25, 3) := by decide +kernel
theorem dX0_takeBackFrom_17 : decode cX0_takeBackFrom 17 = .ok (.iload_n 2, 1) := by decide +kernel
theorem dX0_takeBackFrom_18 : decode cX0_takeBackFrom 18 = .ok (.isub, 1) := by decide +kernel
theorem dX0_takeBackFrom_19 : decode cX0_takeBackFrom 19 = .ok (.putfield 25, 3) := by decide +kernel
theorem dX0_takeBackFrom_22 : decode cX0_takeBackFrom 22 = .ok (.aload_n 1, 1) := by decide +kernel
theorem dX0_takeBackFrom_23 : decode cX0_takeBackFrom 23 = .ok (.dup, 1) := by decide +kernel
theorem dX0_takeBackFrom_24 : decode cX0_takeBackFrom 24 = .ok (.getfield 22, 3) := by decide +kernel
theorem dX0_takeBackFrom_27 : decode cX0_takeBackFrom 27 = .ok (.iload_n 2, 1) := by decide +kernel
theorem dX0_takeBackFrom_28 : decode cX0_takeBackFrom 28 = .ok (.iadd, 1) := by decide +kernel
theorem dX0_takeBackFrom_29 : decode cX0_takeBackFrom 29 = .ok (.putfield 22, 3) := by decide +kernel
theorem dX0_takeBackFrom_32 : decode cX0_takeBackFrom 32 = .ok (.aload_n 0, 1) := by decide +kernel
theorem dX0_takeBackFrom_33 : decode cX0_takeBackFrom 33 = .ok (.iload_n 2, 1) := by decide +kernel
theorem dX0_takeBackFrom_34 : decode cX0_takeBackFrom 34 = .ok (.invokevirtual 74, 3) := by decide +kernel
theorem dX0_takeBackFrom_37 : decode cX0_takeBackFrom 37 = .ok (.return_, 1) := by decide +kernel
theorem dX0_writeHeld_0 : decode cX0_writeHeld 0 = .ok (.aload_n 0, 1) := by decide +kernel
theorem dX0_writeHeld_1 : decode cX0_writeHeld 1 = .ok (.getfield 28, 3) := by decide +kernel
theorem dX0_writeHeld_4 : decode cX0_writeHeld 4 = .ok (.aload_n 0, 1) := by decide +kernel
theorem dX0_writeHeld_5 : decode cX0_writeHeld 5 = .ok (.getfield 9, 3) := by decide +kernel
theorem dX0_writeHeld_8 : decode cX0_writeHeld 8 = .ok (.invokestatic 68, 3) := by decide +kernel
theorem dX0_writeHeld_11 : decode cX0_writeHeld 11 = .ok (.istore_n 1, 1) := by decide +kernel
theorem dX0_writeHeld_12 : decode cX0_writeHeld 12 = .ok (.aload_n 0, 1) := by decide +kernel
theorem dX0_writeHeld_13 : decode cX0_writeHeld 13 = .ok (.dup, 1) := by decide +kernel
theorem dX0_writeHeld_14 : decode cX0_writeHeld 14 = .ok (.getfield 28, 3) := by decide +kernel
theorem dX0_writeHeld_17 : decode cX0_writeHeld 17 = .ok (.iload_n 1, 1) := by decide +kernel
theorem dX0_writeHeld_18 : decode cX0_writeHeld 18 = .ok (.isub, 1) := by decide +kernel
theorem dX0_writeHeld_19 : decode cX0_writeHeld 19 = .ok (.putfield 28, 3) := by decide +kernel
theorem dX0_writeHeld_22 : decode cX0_writeHeld 22 = .ok (.aload_n 0, 1) := by decide +kernel
theorem dX0_writeHeld_23 : decode cX0_writeHeld 23 = .ok (.iload_n 1, 1) := by decide +kernel
theorem dX0_writeHeld_24 : decode cX0_writeHeld 24 = .ok (.invokevirtual 74, 3) := by decide +kernel
theorem dX0_writeHeld_27 : decode cX0_writeHeld 27 = .ok (.return_, 1) := by decide +kernel
theorem dX0_fillCells_0 : decode cX0_fillCells 0 = .ok (.aload_n 0, 1) := by decide +kernel
theorem dX0_fillCells_1 : decode cX0_fillCells 1 = .ok (.dup, 1) := by decide +kernel
theorem dX0_fillCells_2 : decode cX0_fillCells 2 = .ok (.getfield 9, 3) := by decide +kernel
theorem dX0_fillCells_5 : decode cX0_fillCells 5 = .ok (.iload_n 1, 1) := by decide +kernel
theorem dX0_fillCells_6 : decode cX0_fillCells 6 = .ok (.isub, 1) := by decide +kernel
theorem dX0_fillCells_7 : decode cX0_fillCells 7 = .ok (.putfield 9, 3) := by decide +kernel
theorem dX0_fillCells_10 : decode cX0_fillCells 10 = .ok (.aload_n 0, 1) := by decide +kernel
theorem dX0_fillCells_11 : decode cX0_fillCells 11 = .ok (.dup, 1) := by decide +kernel
theorem dX0_fillCells_12 : decode cX0_fillCells 12 = .ok (.getfield 22, 3) := by decide +kernel
theorem dX0_fillCells_15 : decode cX0_fillCells 15 = .ok (.iload_n 1, 1) := by decide +kernel
theorem dX0_fillCells_16 : decode cX0_fillCells 16 = .ok (.iadd, 1) := by decide +kernel
theorem dX0_fillCells_17 : decode cX0_fillCells 17 = .ok (.putfield 22, 3) := by decide +kernel
theorem dX0_fillCells_20 : decode cX0_fillCells 20 = .ok (.aload_n 0, 1) := by decide +kernel
theorem dX0_fillCells_21 : decode cX0_fillCells 21 = .ok (.dup, 1) := by decide +kernel
theorem dX0_fillCells_22 : decode cX0_fillCells 22 = .ok (.getfield 35, 3) := by decide +kernel
theorem dX0_fillCells_25 : decode cX0_fillCells 25 = .ok (.iload_n 1, 1) := by decide +kernel
theorem dX0_fillCells_26 : decode cX0_fillCells 26 = .ok (.iadd, 1) := by decide +kernel
theorem dX0_fillCells_27 : decode cX0_fillCells 27 = .ok (.putfield 35, 3) := by decide +kernel
theorem dX0_fillCells_30 : decode cX0_fillCells 30 = .ok (.return_, 1) := by decide +kernel
theorem dX0_lendTo_0 : decode cX0_lendTo 0 = .ok (.aload_n 0, 1) := by decide +kernel
theorem dX0_lendTo_1 : decode cX0_lendTo 1 = .ok (.getfield 28, 3) := by decide +kernel
theorem dX0_lendTo_4 : decode cX0_lendTo 4 = .ok (.iload_n 2, 1) := by decide +kernel
theorem dX0_lendTo_5 : decode cX0_lendTo 5 = .ok (.if_icmp .le 47, 3) := by decide +kernel
theorem dX0_lendTo_8 : decode cX0_lendTo 8 = .ok (.aload_n 0, 1) := by decide +kernel
theorem dX0_lendTo_9 : decode cX0_lendTo 9 = .ok (.getfield 28, 3) := by decide +kernel
theorem dX0_lendTo_12 : decode cX0_lendTo 12 = .ok (.iload_n 2, 1) := by decide +kernel
theorem dX0_lendTo_13 : decode cX0_lendTo 13 = .ok (.isub, 1) := by decide +kernel
theorem dX0_lendTo_14 : decode cX0_lendTo 14 = .ok (.aload_n 1, 1) := by decide +kernel
theorem dX0_lendTo_15 : decode cX0_lendTo 15 = .ok (.getfield 9, 3) := by decide +kernel
theorem dX0_lendTo_18 : decode cX0_lendTo 18 = .ok (.invokestatic 68, 3) := by decide +kernel
theorem dX0_lendTo_21 : decode cX0_lendTo 21 = .ok (.istore_n 3, 1) := by decide +kernel
theorem dX0_lendTo_22 : decode cX0_lendTo 22 = .ok (.aload_n 1, 1) := by decide +kernel
theorem dX0_lendTo_23 : decode cX0_lendTo 23 = .ok (.dup, 1) := by decide +kernel
theorem dX0_lendTo_24 : decode cX0_lendTo 24 = .ok (.getfield 9, 3) := by decide +kernel
theorem dX0_lendTo_27 : decode cX0_lendTo 27 = .ok (.iload_n 3, 1) := by decide +kernel
theorem dX0_lendTo_28 : decode cX0_lendTo 28 = .ok (.isub, 1) := by decide +kernel
theorem dX0_lendTo_29 : decode cX0_lendTo 29 = .ok (.putfield 9, 3) := by decide +kernel
theorem dX0_lendTo_32 : decode cX0_lendTo 32 = .ok (.aload_n 1, 1) := by decide +kernel
theorem dX0_lendTo_33 : decode cX0_lendTo 33 = .ok (.dup, 1) := by decide +kernel
theorem dX0_lendTo_34 : decode cX0_lendTo 34 = .ok (.getfield 25, 3) := by decide +kernel
theorem dX0_lendTo_37 : decode cX0_lendTo 37 = .ok (.iload_n 3, 1) := by decide +kernel
theorem dX0_lendTo_38 : decode cX0_lendTo 38 = .ok (.iadd, 1) := by decide +kernel
theorem dX0_lendTo_39 : decode cX0_lendTo 39 = .ok (.putfield 25, 3) := by decide +kernel
theorem dX0_lendTo_42 : decode cX0_lendTo 42 = .ok (.aload_n 0, 1) := by decide +kernel
theorem dX0_lendTo_43 : decode cX0_lendTo 43 = .ok (.dup, 1) := by decide +kernel
theorem dX0_lendTo_44 : decode cX0_lendTo 44 = .ok (.getfield 28, 3) := by decide +kernel
theorem dX0_lendTo_47 : decode cX0_lendTo 47 = .ok (.iload_n 3, 1) := by decide +kernel
theorem dX0_lendTo_48 : decode cX0_lendTo 48 = .ok (.isub, 1) := by decide +kernel
theorem dX0_lendTo_49 : decode cX0_lendTo 49 = .ok (.putfield 28, 3) := by decide +kernel
theorem dX0_lendTo_52 : decode cX0_lendTo 52 = .ok (.return_, 1) := by decide +kernel
theorem dX0_cleanCells_0 : decode cX0_cleanCells 0 = .ok (.aload_n 0, 1) := by decide +kernel
theorem dX0_cleanCells_1 : decode cX0_cleanCells 1 = .ok (.dup, 1) := by decide +kernel
theorem dX0_cleanCells_2 : decode cX0_cleanCells 2 = .ok (.getfield 22, 3) := by decide +kernel
theorem dX0_cleanCells_5 : decode cX0_cleanCells 5 = .ok (.iload_n 1, 1) := by decide +kernel
theorem dX0_cleanCells_6 : decode cX0_cleanCells 6 = .ok (.isub, 1) := by decide +kernel
theorem dX0_cleanCells_7 : decode cX0_cleanCells 7 = .ok (.putfield 22, 3) := by decide +kernel
theorem dX0_cleanCells_10 : decode cX0_cleanCells 10 = .ok (.aload_n 0, 1) := by decide +kernel
theorem dX0_cleanCells_11 : decode cX0_cleanCells 11 = .ok (.dup, 1) := by decide +kernel
theorem dX0_cleanCells_12 : decode cX0_cleanCells 12 = .ok (.getfield 9, 3) := by decide +kernel
theorem dX0_cleanCells_15 : decode cX0_cleanCells 15 = .ok (.iload_n 1, 1) := by decide +kernel
theorem dX0_cleanCells_16 : decode cX0_cleanCells 16 = .ok (.iadd, 1) := by decide +kernel
theorem dX0_cleanCells_17 : decode cX0_cleanCells 17 = .ok (.putfield 9, 3) := by decide +kernel
theorem dX0_cleanCells_20 : decode cX0_cleanCells 20 = .ok (.aload_n 0, 1) := by decide +kernel
theorem dX0_cleanCells_21 : decode cX0_cleanCells 21 = .ok (.dup, 1) := by decide +kernel
theorem dX0_cleanCells_22 : decode cX0_cleanCells 22 = .ok (.getfield 38, 3) := by decide +kernel
theorem dX0_cleanCells_25 : decode cX0_cleanCells 25 = .ok (.iconst 1, 1) := by decide +kernel
theorem dX0_cleanCells_26 : decode cX0_cleanCells 26 = .ok (.iadd, 1) := by decide +kernel
theorem dX0_cleanCells_27 : decode cX0_cleanCells 27 = .ok (.putfield 38, 3) := by decide +kernel
theorem dX0_cleanCells_30 : decode cX0_cleanCells 30 = .ok (.return_, 1) := by decide +kernel
theorem dX1_init_0 : decode cX1_init 0 = .ok (.aload_n 0, 1) := by decide +kernel
theorem dX1_init_1 : decode cX1_init 1 = .ok (.invokespecial 3, 3) := by decide +kernel
theorem dX1_init_4 : decode cX1_init 4 = .ok (.aload_n 0, 1) := by decide +kernel
theorem dX1_init_5 : decode cX1_init 5 = .ok (.bipush 7, 2) := by decide +kernel
theorem dX1_init_7 : decode cX1_init 7 = .ok (.anewarray 9, 3) := by decide +kernel
theorem dX1_init_10 : decode cX1_init 10 = .ok (.putfield 11, 3) := by decide +kernel
theorem dX1_init_13 : decode cX1_init 13 = .ok (.iconst 0, 1) := by decide +kernel
theorem dX1_init_14 : decode cX1_init 14 = .ok (.istore_n 1, 1) := by decide +kernel
theorem dX1_init_15 : decode cX1_init 15 = .ok (.iload_n 1, 1) := by decide +kernel
theorem dX1_init_16 : decode cX1_init 16 = .ok (.bipush 6, 2) := by decide +kernel
theorem dX1_init_18 : decode cX1_init 18 = .ok (.if_icmp .gt 22, 3) := by decide +kernel
theorem dX1_init_21 : decode cX1_init 21 = .ok (.aload_n 0, 1) := by decide +kernel
theorem dX1_init_22 : decode cX1_init 22 = .ok (.getfield 11, 3) := by decide +kernel
theorem dX1_init_25 : decode cX1_init 25 = .ok (.iload_n 1, 1) := by decide +kernel
theorem dX1_init_26 : decode cX1_init 26 = .ok (.new 9, 3) := by decide +kernel
theorem dX1_init_29 : decode cX1_init 29 = .ok (.dup, 1) := by decide +kernel
theorem dX1_init_30 : decode cX1_init 30 = .ok (.invokespecial 17, 3) := by decide +kernel
theorem dX1_init_33 : decode cX1_init 33 = .ok (.aastore, 1) := by decide +kernel
theorem dX1_init_34 : decode cX1_init 34 = .ok (.iinc 1 1, 3) := by decide +kernel
theorem dX1_init_37 : decode cX1_init 37 = .ok (.goto (-22), 3) := by decide +kernel
theorem dX1_init_40 : decode cX1_init 40 = .ok (.return_, 1) := by decide +kernel
theorem dX1_prepare_0 : decode cX1_prepare 0 = .ok (.aload_n 0, 1) := by decide +kernel
theorem dX1_prepare_1 : decode cX1_prepare 1 = .ok (.getfield 11, 3) := by decide +kernel
theorem dX1_prepare_4 : decode cX1_prepare 4 = .ok (.aload_n 0, 1) := by decide +kernel
theorem dX1_prepare_5 : decode cX1_prepare 5 = .ok (.getfield 18, 3) := by decide +kernel
theorem dX1_prepare_8 : decode cX1_prepare 8 = .ok (.aaload, 1) := by decide +kernel
theorem dX1_prepare_9 : decode cX1_prepare 9 = .ok (.aload_n 1, 1) := by decide +kernel
theorem dX1_prepare_10 : decode cX1_prepare 10 = .ok (.invokevirtual 22, 3) := by decide +kernel
theorem dX1_prepare_13 : decode cX1_prepare 13 = .ok (.return_, 1) := by decide +kernel
theorem dX1_keepPrepared_0 : decode cX1_keepPrepared 0 = .ok (.aload_n 0, 1) := by decide +kernel
theorem dX1_keepPrepared_1 : decode cX1_keepPrepared 1 = .ok (.aload_n 0, 1) := by decide +kernel
theorem dX1_keepPrepared_2 : decode cX1_keepPrepared 2 = .ok (.getfield 18, 3) := by decide +kernel
theorem dX1_keepPrepared_5 : decode cX1_keepPrepared 5 = .ok (.bipush 6, 2) := by decide +kernel
theorem dX1_keepPrepared_7 : decode cX1_keepPrepared 7 = .ok (.if_icmp .ge 12, 3) := by decide +kernel
theorem dX1_keepPrepared_10 : decode cX1_keepPrepared 10 = .ok (.aload_n 0, 1) := by decide +kernel
theorem dX1_keepPrepared_11 : decode cX1_keepPrepared 11 = .ok (.getfield 18, 3) := by decide +kernel
theorem dX1_keepPrepared_14 : decode cX1_keepPrepared 14 = .ok (.iconst 1, 1) := by decide +kernel
theorem dX1_keepPrepared_15 : decode cX1_keepPrepared 15 = .ok (.iadd, 1) := by decide +kernel
theorem dX1_keepPrepared_16 : decode cX1_keepPrepared 16 = .ok (.goto 4, 3) := by decide +kernel
theorem dX1_keepPrepared_19 : decode cX1_keepPrepared 19 = .ok (.iconst 0, 1) := by decide +kernel
theorem dX1_keepPrepared_20 : decode cX1_keepPrepared 20 = .ok (.putfield 18, 3) := by decide +kernel
theorem dX1_keepPrepared_23 : decode cX1_keepPrepared 23 = .ok (.aload_n 0, 1) := by decide +kernel
theorem dX1_keepPrepared_24 : decode cX1_keepPrepared 24 = .ok (.aload_n 0, 1) := by decide +kernel
theorem dX1_keepPrepared_25 : decode cX1_keepPrepared 25 = .ok (.getfield 26, 3) := by decide +kernel
theorem dX1_keepPrepared_28 : decode cX1_keepPrepared 28 = .ok (.iconst 1, 1) := by decide +kernel
theorem dX1_keepPrepared_29 : decode cX1_keepPrepared 29 = .ok (.iadd, 1) := by decide +kernel
theorem dX1_keepPrepared_30 : decode cX1_keepPrepared 30 = .ok (.bipush 6, 2) := by decide +kernel
theorem dX1_keepPrepared_32 : decode cX1_keepPrepared 32 = .ok (.invokestatic 29, 3) := by decide +kernel
theorem dX1_keepPrepared_35 : decode cX1_keepPrepared 35 = .ok (.putfield 26, 3) := by decide +kernel
theorem dX1_keepPrepared_38 : decode cX1_keepPrepared 38 = .ok (.return_, 1) := by decide +kernel
theorem dX1_bringBackLatest_0 : decode cX1_bringBackLatest 0 = .ok (.aload_n 0, 1) := by decide +kernel
theorem dX1_bringBackLatest_1 : decode cX1_bringBackLatest 1 = .ok (.getfield 26, 3) := by decide +kernel
theorem dX1_bringBackLatest_4 : decode cX1_bringBackLatest 4 = .ok (.ifCond .le 48, 3) := by decide +kernel
theorem dX1_bringBackLatest_7 : decode cX1_bringBackLatest 7 = .ok (.aload_n 0, 1) := by decide +kernel
theorem dX1_bringBackLatest_8 : decode cX1_bringBackLatest 8 = .ok (.aload_n 0, 1) := by decide +kernel
theorem dX1_bringBackLatest_9 : decode cX1_bringBackLatest 9 = .ok (.getfield 18, 3) := by decide +kernel
theorem dX1_bringBackLatest_12 : decode cX1_bringBackLatest 12 = .ok (.ifCond .le 12, 3) := by decide +kernel
theorem dX1_bringBackLatest_15 : decode cX1_bringBackLatest 15 = .ok (.aload_n 0, 1) := by decide +kernel
theorem dX1_bringBackLatest_16 : decode cX1_bringBackLatest 16 = .ok (.getfield 18, 3) := by decide +kernel
theorem dX1_bringBackLatest_19 : decode cX1_bringBackLatest 19 = .ok (.iconst 1, 1) := by decide +kernel
theorem dX1_bringBackLatest_20 : decode cX1_bringBackLatest 20 = .ok (.isub, 1) := by decide +kernel
theorem dX1_bringBackLatest_21 : decode cX1_bringBackLatest 21 = .ok (.goto 5, 3) := by decide +kernel
theorem dX1_bringBackLatest_24 : decode cX1_bringBackLatest 24 = .ok (.bipush 6, 2) := by decide +kernel
theorem dX1_bringBackLatest_26 : decode cX1_bringBackLatest 26 = .ok (.putfield 18, 3) := by decide +kernel
theorem dX1_bringBackLatest_29 : decode cX1_bringBackLatest 29 = .ok (.aload_n 0, 1) := by decide +kernel
theorem dX1_bringBackLatest_30 : decode cX1_bringBackLatest 30 = .ok (.dup, 1) := by decide +kernel
theorem dX1_bringBackLatest_31 : decode cX1_bringBackLatest 31 = .ok (.getfield 26, 3) := by decide +kernel
theorem dX1_bringBackLatest_34 : decode cX1_bringBackLatest 34 = .ok (.iconst 1, 1) := by decide +kernel
theorem dX1_bringBackLatest_35 : decode cX1_bringBackLatest 35 = .ok (.isub, 1) := by decide +kernel
theorem dX1_bringBackLatest_36 : decode cX1_bringBackLatest 36 = .ok (.putfield 26, 3) := by decide +kernel
theorem dX1_bringBackLatest_39 : decode cX1_bringBackLatest 39 = .ok (.aload_n 1, 1) := by decide +kernel
theorem dX1_bringBackLatest_40 : decode cX1_bringBackLatest 40 = .ok (.aload_n 0, 1) := by decide +kernel
theorem dX1_bringBackLatest_41 : decode cX1_bringBackLatest 41 = .ok (.getfield 11, 3) := by decide +kernel
theorem dX1_bringBackLatest_44 : decode cX1_bringBackLatest 44 = .ok (.aload_n 0, 1) := by decide +kernel
theorem dX1_bringBackLatest_45 : decode cX1_bringBackLatest 45 = .ok (.getfield 18, 3) := by decide +kernel
theorem dX1_bringBackLatest_48 : decode cX1_bringBackLatest 48 = .ok (.aaload, 1) := by decide +kernel
theorem dX1_bringBackLatest_49 : decode cX1_bringBackLatest 49 = .ok (.invokevirtual 22, 3) := by decide +kernel
theorem dX1_bringBackLatest_52 : decode cX1_bringBackLatest 52 = .ok (.return_, 1) := by decide +kernel
theorem dX2_init_0 : decode cX2_init 0 = .ok (.aload_n 0, 1) := by decide +kernel
theorem dX2_init_1 : decode cX2_init 1 = .ok (.invokespecial 3, 3) := by decide +kernel
theorem dX2_init_4 : decode cX2_init 4 = .ok (.aload_n 0, 1) := by decide +kernel
theorem dX2_init_5 : decode cX2_init 5 = .ok (.bipush 80, 2) := by decide +kernel
theorem dX2_init_7 : decode cX2_init 7 = .ok (.newarray .char, 2) := by decide +kernel
theorem dX2_init_9 : decode cX2_init 9 = .ok (.putfield 9, 3) := by decide +kernel
theorem dX2_init_12 : decode cX2_init 12 = .ok (.return_, 1) := by decide +kernel
theorem dX2_append_0 : decode cX2_append 0 = .ok (.iload_n 3, 1) := by decide +kernel
theorem dX2_append_1 : decode cX2_append 1 = .ok (.iconst 1, 1) := by decide +kernel
theorem dX2_append_2 : decode cX2_append 2 = .ok (.isub, 1) := by decide +kernel
theorem dX2_append_3 : decode cX2_append 3 = .ok (.istore 4, 2) := by decide +kernel
theorem dX2_append_5 : decode cX2_append 5 = .ok (.iload 4, 2) := by decide +kernel
theorem dX2_append_7 : decode cX2_append 7 = .ok (.ifCond .lt 50, 3) := by decide +kernel
theorem dX2_append_10 : decode cX2_append 10 = .ok (.aload_n 0, 1) := by decide +kernel
theorem dX2_append_11 : decode cX2_append 11 = .ok (.getfield 15, 3) := by decide +kernel
theorem dX2_append_14 : decode cX2_append 14 = .ok (.bipush 80, 2) := by decide +kernel
theorem dX2_append_16 : decode cX2_append 16 = .ok (.if_icmp .ge 41, 3) := by decide +kernel
theorem dX2_append_19 : decode cX2_append 19 = .ok (.aload_n 0, 1) := by decide +kernel
theorem dX2_append_20 : decode cX2_append 20 = .ok (.getfield 9, 3) := by decide +kernel
theorem dX2_append_23 : decode cX2_append 23 = .ok (.aload_n 0, 1) := by decide +kernel
theorem dX2_append_24 : decode cX2_append 24 = .ok (.getfield 15, 3) := by decide +kernel
theorem dX2_append_27 : decode cX2_append 27 = .ok (.lload_n 1, 1) := by decide +kernel
theorem dX2_append_28 : decode cX2_append 28 = .ok (.bipush 8, 2) := by decide +kernel
theorem dX2_append_30 : decode cX2_append 30 = .ok (.iload 4, 2) := by decide +kernel
theorem dX2_append_32 : decode cX2_append 32 = .ok (.imul, 1) := by decide +kernel
theorem dX2_append_33 : decode cX2_append 33 = .ok (.lushr, 1) := by decide +kernel
theorem dX2_append_34 : decode cX2_append 34 = .ok (.ldc2_w 19, 3) := by decide +kernel
theorem dX2_append_37 : decode cX2_append 37 = .ok (.land, 1) := by decide +kernel
theorem dX2_append_38 : decode cX2_append 38 = .ok (.l2i, 1) := by decide +kernel
theorem dX2_append_39 : decode cX2_append 39 = .ok (.i2c, 1) := by decide +kernel
theorem dX2_append_40 : decode cX2_append 40 = .ok (.castore, 1) := by decide +kernel
theorem dX2_append_41 : decode cX2_append 41 = .ok (.aload_n 0, 1) := by decide +kernel
theorem dX2_append_42 : decode cX2_append 42 = .ok (.dup, 1) := by decide +kernel
theorem dX2_append_43 : decode cX2_append 43 = .ok (.getfield 15, 3) := by decide +kernel
theorem dX2_append_46 : decode cX2_append 46 = .ok (.iconst 1, 1) := by decide +kernel
theorem dX2_append_47 : decode cX2_append 47 = .ok (.iadd, 1) := by decide +kernel
theorem dX2_append_48 : decode cX2_append 48 = .ok (.putfield 15, 3) := by decide +kernel
theorem dX2_append_51 : decode cX2_append 51 = .ok (.iinc 4 (-1), 3) := by decide +kernel
theorem dX2_append_54 : decode cX2_append 54 = .ok (.goto (-49), 3) := by decide +kernel
theorem dX2_append_57 : decode cX2_append 57 = .ok (.return_, 1) := by decide +kernel
theorem dX2_firstFault_0 : decode cX2_firstFault 0 = .ok (.aload_n 0, 1) := by decide +kernel
theorem dX2_firstFault_1 : decode cX2_firstFault 1 = .ok (.invokevirtual 21, 3) := by decide +kernel
theorem dX2_firstFault_4 : decode cX2_firstFault 4 = .ok (.iconst 0, 1) := by decide +kernel
theorem dX2_firstFault_5 : decode cX2_firstFault 5 = .ok (.istore_n 1, 1) := by decide +kernel
theorem dX2_firstFault_6 : decode cX2_firstFault 6 = .ok (.iload_n 1, 1) := by decide +kernel
theorem dX2_firstFault_7 : decode cX2_firstFault 7 = .ok (.bipush 80, 2) := by decide +kernel
theorem dX2_firstFault_9 : decode cX2_firstFault 9 = .ok (.if_icmp .ge 30, 3) := by decide +kernel
theorem dX2_firstFault_12 : decode cX2_firstFault 12 = .ok (.aload_n 0, 1) := by decide +kernel
theorem dX2_firstFault_13 : decode cX2_firstFault 13 = .ok (.invokevirtual 24, 3) := by decide +kernel
theorem dX2_firstFault_16 : decode cX2_firstFault 16 = .ok (.ifCond .eq 23, 3) := by decide +kernel
theorem dX2_firstFault_19 : decode cX2_firstFault 19 = .ok (.aload_n 0, 1) := by decide +kernel
theorem dX2_firstFault_20 : decode cX2_firstFault 20 = .ok (.getfield 28, 3) := by decide +kernel
theorem dX2_firstFault_23 : decode cX2_firstFault 23 = .ok (.aload_n 0, 1) := by decide +kernel
theorem dX2_firstFault_24 : decode cX2_firstFault 24 = .ok (.getfield 15, 3) := by decide +kernel
theorem dX2_firstFault_27 : decode cX2_firstFault 27 = .ok (.if_icmp .ne 6, 3) := by decide +kernel
theorem dX2_firstFault_30 : decode cX2_firstFault 30 = .ok (.bipush (-6), 2) := by decide +kernel
theorem dX2_firstFault_32 : decode cX2_firstFault 32 = .ok (.ireturn, 1) := by decide +kernel
theorem dX2_firstFault_33 : decode cX2_firstFault 33 = .ok (.iinc 1 1, 3) := by decide +kernel
theorem dX2_firstFault_36 : decode cX2_firstFault 36 = .ok (.goto (-30), 3) := by decide +kernel
theorem dX2_firstFault_39 : decode cX2_firstFault 39 = .ok (.aload_n 0, 1) := by decide +kernel
theorem dX2_firstFault_40 : decode cX2_firstFault 40 = .ok (.getfield 28, 3) := by decide +kernel
theorem dX2_firstFault_43 : decode cX2_firstFault 43 = .ok (.ireturn, 1) := by decide +kernel
theorem dX2_begin_0 : decode cX2_begin 0 = .ok (.aload_n 0, 1) := by decide +kernel
theorem dX2_begin_1 : decode cX2_begin 1 = .ok (.iconst 0, 1) := by decide +kernel
theorem dX2_begin_2 : decode cX2_begin 2 = .ok (.putfield 28, 3) := by decide +kernel
theorem dX2_begin_5 : decode cX2_begin 5 = .ok (.return_, 1) := by decide +kernel
theorem dX2_readNext_0 : decode cX2_readNext 0 = .ok (.aload_n 0, 1) := by decide +kernel
theorem dX2_readNext_1 : decode cX2_readNext 1 = .ok (.getfield 28, 3) := by decide +kernel
theorem dX2_readNext_4 : decode cX2_readNext 4 = .ok (.ifCond .eq 12, 3) := by decide +kernel
theorem dX2_readNext_7 : decode cX2_readNext 7 = .ok (.aload_n 0, 1) := by decide +kernel
theorem dX2_readNext_8 : decode cX2_readNext 8 = .ok (.bipush 59, 2) := by decide +kernel
theorem dX2_readNext_10 : decode cX2_readNext 10 = .ok (.invokevirtual 31, 3) := by decide +kernel
theorem dX2_readNext_13 : decode cX2_readNext 13 = .ok (.ifCond .eq 14, 3) := by decide +kernel
theorem dX2_readNext_16 : decode cX2_readNext 16 = .ok (.aload_n 0, 1) := by decide +kernel
theorem dX2_readNext_17 : decode cX2_readNext 17 = .ok (.invokevirtual 35, 3) := by decide +kernel
theorem dX2_readNext_20 : decode cX2_readNext 20 = .ok (.ifCond .eq 7, 3) := by decide +kernel
theorem dX2_readNext_23 : decode cX2_readNext 23 = .ok (.iconst 1, 1) := by decide +kernel
theorem dX2_readNext_24 : decode cX2_readNext 24 = .ok (.goto 4, 3) := by decide +kernel
theorem dX2_readNext_27 : decode cX2_readNext 27 = .ok (.iconst 0, 1) := by decide +kernel
theorem dX2_readNext_28 : decode cX2_readNext 28 = .ok (.ireturn, 1) := by decide +kernel
theorem dX2_readOrder_0 : decode cX2_readOrder 0 = .ok (.aload_n 0, 1) := by decide +kernel
theorem dX2_readOrder_1 : decode cX2_readOrder 1 = .ok (.aload_n 0, 1) := by decide +kernel
theorem dX2_readOrder_2 : decode cX2_readOrder 2 = .ok (.invokevirtual 38, 3) := by decide +kernel
theorem dX2_readOrder_5 : decode cX2_readOrder 5 = .ok (.putfield 42, 3) := by decide +kernel
theorem dX2_readOrder_8 : decode cX2_readOrder 8 = .ok (.aload_n 0, 1) := by decide +kernel
theorem dX2_readOrder_9 : decode cX2_readOrder 9 = .ok (.getfield 42, 3) := by decide +kernel
theorem dX2_readOrder_12 : decode cX2_readOrder 12 = .ok (.lookupswitch 177 #[(103, 52), (115, 52), (116, 155), (118, 110), (119, 81)], 52) := by decide +kernel
theorem dX2_readOrder_64 : decode cX2_readOrder 64 = .ok (.aload_n 0, 1) := by decide +kernel
theorem dX2_readOrder_65 : decode cX2_readOrder 65 = .ok (.invokevirtual 46, 3) := by decide +kernel
theorem dX2_readOrder_68 : decode cX2_readOrder 68 = .ok (.ifCond .eq 23, 3) := by decide +kernel
theorem dX2_readOrder_71 : decode cX2_readOrder 71 = .ok (.aload_n 0, 1) := by decide +kernel
theorem dX2_readOrder_72 : decode cX2_readOrder 72 = .ok (.bipush 64, 2) := by decide +kernel
theorem dX2_readOrder_74 : decode cX2_readOrder 74 = .ok (.invokevirtual 31, 3) := by decide +kernel
theorem dX2_readOrder_77 : decode cX2_readOrder 77 = .ok (.ifCond .eq 14, 3) := by decide +kernel
theorem dX2_readOrder_80 : decode cX2_readOrder 80 = .ok (.aload_n 0, 1) := by decide +kernel
theorem dX2_readOrder_81 : decode cX2_readOrder 81 = .ok (.invokevirtual 49, 3) := by decide +kernel
theorem dX2_readOrder_84 : decode cX2_readOrder 84 = .ok (.ifCond .eq 7, 3) := by decide +kernel
theorem dX2_readOrder_87 : decode cX2_readOrder 87 = .ok (.iconst 1, 1) := by decide +kernel
theorem dX2_readOrder_88 : decode cX2_readOrder 88 = .ok (.goto 4, 3) := by decide +kernel
theorem dX2_readOrder_91 : decode cX2_readOrder 91 = .ok (.iconst 0, 1) := by decide +kernel
theorem dX2_readOrder_92 : decode cX2_readOrder 92 = .ok (.ireturn, 1) := by decide +kernel
theorem dX2_readOrder_93 : decode cX2_readOrder 93 = .ok (.aload_n 0, 1) := by decide +kernel
theorem dX2_readOrder_94 : decode cX2_readOrder 94 = .ok (.invokevirtual 46, 3) := by decide +kernel
theorem dX2_readOrder_97 : decode cX2_readOrder 97 = .ok (.ifCond .eq 23, 3) := by decide +kernel
theorem dX2_readOrder_100 : decode cX2_readOrder 100 = .ok (.aload_n 0, 1) := by decide +kernel
theorem dX2_readOrder_101 : decode cX2_readOrder 101 = .ok (.bipush 42, 2) := by decide +kernel
theorem dX2_readOrder_103 : decode cX2_readOrder 103 = .ok (.invokevirtual 31, 3) := by decide +kernel
theorem dX2_readOrder_106 : decode cX2_readOrder 106 = .ok (.ifCond .eq 14, 3) := by decide +kernel
theorem dX2_readOrder_109 : decode cX2_readOrder 109 = .ok (.aload_n 0, 1) := by decide +kernel
theorem dX2_readOrder_110 : decode cX2_readOrder 110 = .ok (.invokevirtual 49, 3) := by decide +kernel
theorem dX2_readOrder_113 : decode cX2_readOrder 113 = .ok (.ifCond .eq 7, 3) := by decide +kernel
theorem dX2_readOrder_116 : decode cX2_readOrder 116 = .ok (.iconst 1, 1) := by decide +kernel
theorem dX2_readOrder_117 : decode cX2_readOrder 117 = .ok (.goto 4, 3) := by decide +kernel
theorem dX2_readOrder_120 : decode cX2_readOrder 120 = .ok (.iconst 0, 1) := by decide +kernel
theorem dX2_readOrder_121 : decode cX2_readOrder 121 = .ok (.ireturn, 1) := by decide +kernel
theorem dX2_readOrder_122 : decode cX2_readOrder 122 = .ok (.aload_n 0, 1) := by decide +kernel
theorem dX2_readOrder_123 : decode cX2_readOrder 123 = .ok (.invokevirtual 46, 3) := by decide +kernel
theorem dX2_readOrder_126 : decode cX2_readOrder 126 = .ok (.ifCond .eq 39, 3) := by decide +kernel
theorem dX2_readOrder_129 : decode cX2_readOrder 129 = .ok (.aload_n 0, 1) := by decide +kernel
theorem dX2_readOrder_130 : decode cX2_readOrder 130 = .ok (.bipush 47, 2) := by decide +kernel
theorem dX2_readOrder_132 : decode cX2_readOrder 132 = .ok (.invokevirtual 31, 3) := by decide +kernel
theorem dX2_readOrder_135 : decode cX2_readOrder 135 = .ok (.ifCond .eq 30, 3) := by decide +kernel
theorem dX2_readOrder_138 : decode cX2_readOrder 138 = .ok (.aload_n 0, 1) := by decide +kernel
theorem dX2_readOrder_139 : decode cX2_readOrder 139 = .ok (.invokevirtual 49, 3) := by decide +kernel
theorem dX2_readOrder_142 : decode cX2_readOrder 142 = .ok (.ifCond .eq 23, 3) := by decide +kernel
theorem dX2_readOrder_145 : decode cX2_readOrder 145 = .ok (.aload_n 0, 1) := by decide +kernel
theorem dX2_readOrder_146 : decode cX2_readOrder 146 = .ok (.bipush 42, 2) := by decide +kernel
theorem dX2_readOrder_148 : decode cX2_readOrder 148 = .ok (.invokevirtual 31, 3) := by decide +kernel
theorem dX2_readOrder_151 : decode cX2_readOrder 151 = .ok (.ifCond .eq 14, 3) := by decide +kernel
theorem dX2_readOrder_154 : decode cX2_readOrder 154 = .ok (.aload_n 0, 1) := by decide +kernel
theorem dX2_readOrder_155 : decode cX2_readOrder 155 = .ok (.invokevirtual 52, 3) := by decide +kernel
theorem dX2_readOrder_158 : decode cX2_readOrder 158 = .ok (.ifCond .eq 7, 3) := by decide +kernel
theorem dX2_readOrder_161 : decode cX2_readOrder 161 = .ok (.iconst 1, 1) := by decide +kernel
theorem dX2_readOrder_162 : decode cX2_readOrder 162 = .ok (.goto 4, 3) := by decide +kernel
theorem dX2_readOrder_165 : decode cX2_readOrder 165 = .ok (.iconst 0, 1) := by decide +kernel
theorem dX2_readOrder_166 : decode cX2_readOrder 166 = .ok (.ireturn, 1) := by decide +kernel
theorem dX2_readOrder_167 : decode cX2_readOrder 167 = .ok (.aload_n 0, 1) := by decide +kernel
theorem dX2_readOrder_168 : decode cX2_readOrder 168 = .ok (.bipush 116, 2) := by decide +kernel
theorem dX2_readOrder_170 : decode cX2_readOrder 170 = .ok (.invokevirtual 31, 3) := by decide +kernel
theorem dX2_readOrder_173 : decode cX2_readOrder 173 = .ok (.ifCond .eq 14, 3) := by decide +kernel
theorem dX2_readOrder_176 : decode cX2_readOrder 176 = .ok (.aload_n 0, 1) := by decide +kernel
theorem dX2_readOrder_177 : decode cX2_readOrder 177 = .ok (.invokevirtual 49, 3) := by decide +kernel
theorem dX2_readOrder_180 : decode cX2_readOrder 180 = .ok (.ifCond .eq 7, 3) := by decide +kernel
theorem dX2_readOrder_183 : decode cX2_readOrder 183 = .ok (.iconst 1, 1) := by decide +kernel
theorem dX2_readOrder_184 : decode cX2_readOrder 184 = .ok (.goto 4, 3) := by decide +kernel
theorem dX2_readOrder_187 : decode cX2_readOrder 187 = .ok (.iconst 0, 1) := by decide +kernel
theorem dX2_readOrder_188 : decode cX2_readOrder 188 = .ok (.ireturn, 1) := by decide +kernel
theorem dX2_readOrder_189 : decode cX2_readOrder 189 = .ok (.iconst 0, 1) := by decide +kernel
theorem dX2_readOrder_190 : decode cX2_readOrder 190 = .ok (.ireturn, 1) := by decide +kernel
theorem dX2_readKindAndDrive_0 : decode cX2_readKindAndDrive 0 = .ok (.aload_n 0, 1) := by decide +kernel
theorem dX2_readKindAndDrive_1 : decode cX2_readKindAndDrive 1 = .ok (.dup, 1) := by decide +kernel
theorem dX2_readKindAndDrive_2 : decode cX2_readKindAndDrive 2 = .ok (.getfield 28, 3) := by decide +kernel
theorem dX2_readKindAndDrive_5 : decode cX2_readKindAndDrive 5 = .ok (.iconst 1, 1) := by decide +kernel
theorem dX2_readKindAndDrive_6 : decode cX2_readKindAndDrive 6 = .ok (.iadd, 1) := by decide +kernel
theorem dX2_readKindAndDrive_7 : decode cX2_readKindAndDrive 7 = .ok (.putfield 28, 3) := by decide +kernel
theorem dX2_readKindAndDrive_10 : decode cX2_readKindAndDrive 10 = .ok (.aload_n 0, 1) := by decide +kernel
theorem dX2_readKindAndDrive_11 : decode cX2_readKindAndDrive 11 = .ok (.aload_n 0, 1) := by decide +kernel
theorem dX2_readKindAndDrive_12 : decode cX2_readKindAndDrive 12 = .ok (.invokevirtual 38, 3) := by decide +kernel
theorem dX2_readKindAndDrive_15 : decode cX2_readKindAndDrive 15 = .ok (.bipush 48, 2) := by decide +kernel
theorem dX2_readKindAndDrive_17 : decode cX2_readKindAndDrive 17 = .ok (.isub, 1) := by decide +kernel
theorem dX2_readKindAndDrive_18 : decode cX2_readKindAndDrive 18 = .ok (.putfield 55, 3) := by decide +kernel
theorem dX2_readKindAndDrive_21 : decode cX2_readKindAndDrive 21 = .ok (.aload_n 0, 1) := by decide +kernel
theorem dX2_readKindAndDrive_22 : decode cX2_readKindAndDrive 22 = .ok (.getfield 55, 3) := by decide +kernel
theorem dX2_readKindAndDrive_25 : decode cX2_readKindAndDrive 25 = .ok (.invokestatic 58, 3) := by decide +kernel
theorem dX2_readKindAndDrive_28 : decode cX2_readKindAndDrive 28 = .ok (.ifCond .ne 5, 3) := by decide +kernel
theorem dX2_readKindAndDrive_31 : decode cX2_readKindAndDrive 31 = .ok (.iconst 0, 1) := by decide +kernel
theorem dX2_readKindAndDrive_32 : decode cX2_readKindAndDrive 32 = .ok (.ireturn, 1) := by decide +kernel
theorem dX2_readKindAndDrive_33 : decode cX2_readKindAndDrive 33 = .ok (.aload_n 0, 1) := by decide +kernel
theorem dX2_readKindAndDrive_34 : decode cX2_readKindAndDrive 34 = .ok (.dup, 1) := by decide +kernel
theorem dX2_readKindAndDrive_35 : decode cX2_readKindAndDrive 35 = .ok (.getfield 28, 3) := by decide +kernel
theorem dX2_readKindAndDrive_38 : decode cX2_readKindAndDrive 38 = .ok (.iconst 1, 1) := by decide +kernel
theorem dX2_readKindAndDrive_39 : decode cX2_readKindAndDrive 39 = .ok (.iadd, 1) := by decide +kernel
theorem dX2_readKindAndDrive_40 : decode cX2_readKindAndDrive 40 = .ok (.putfield 28, 3) := by decide +kernel
theorem dX2_readKindAndDrive_43 : decode cX2_readKindAndDrive 43 = .ok (.iconst 1, 1) := by decide +kernel
theorem dX2_readKindAndDrive_44 : decode cX2_readKindAndDrive 44 = .ok (.ireturn, 1) := by decide +kernel
theorem dX2_readSign_0 : decode cX2_readSign 0 = .ok (.aload_n 0, 1) := by decide +kernel
theorem dX2_readSign_1 : decode cX2_readSign 1 = .ok (.invokevirtual 38, 3) := by decide +kernel
theorem dX2_readSign_4 : decode cX2_readSign 4 = .ok (.iload_n 1, 1) := by decide +kernel
theorem dX2_readSign_5 : decode cX2_readSign 5 = .ok (.if_icmp .eq 5, 3) := by decide +kernel
theorem dX2_readSign_8 : decode cX2_readSign 8 = .ok (.iconst 0, 1) := by decide +kernel
theorem dX2_readSign_9 : decode cX2_readSign 9 = .ok (.ireturn, 1) := by decide +kernel
theorem dX2_readSign_10 : decode cX2_readSign 10 = .ok (.aload_n 0, 1) := by decide +kernel
theorem dX2_readSign_11 : decode cX2_readSign 11 = .ok (.dup, 1) := by decide +kernel
theorem dX2_readSign_12 : decode cX2_readSign 12 = .ok (.getfield 28, 3) := by decide +kernel
theorem dX2_readSign_15 : decode cX2_readSign 15 = .ok (.iconst 1, 1) := by decide +kernel
theorem dX2_readSign_16 : decode cX2_readSign 16 = .ok (.iadd, 1) := by decide +kernel
theorem dX2_readSign_17 : decode cX2_readSign 17 = .ok (.putfield 28, 3) := by decide +kernel
theorem dX2_readSign_20 : decode cX2_readSign 20 = .ok (.iconst 1, 1) := by decide +kernel
theorem dX2_readSign_21 : decode cX2_readSign 21 = .ok (.ireturn, 1) := by decide +kernel
theorem dX2_readFirst_0 : decode cX2_readFirst 0 = .ok (.aload_n 0, 1) := by decide +kernel
theorem dX2_readFirst_1 : decode cX2_readFirst 1 = .ok (.aload_n 0, 1) := by decide +kernel
theorem dX2_readFirst_2 : decode cX2_readFirst 2 = .ok (.invokevirtual 62, 3) := by decide +kernel
theorem dX2_readFirst_5 : decode cX2_readFirst 5 = .ok (.putfield 66, 3) := by decide +kernel
theorem dX2_readFirst_8 : decode cX2_readFirst 8 = .ok (.aload_n 0, 1) := by decide +kernel
theorem dX2_readFirst_9 : decode cX2_readFirst 9 = .ok (.getfield 66, 3) := by decide +kernel
theorem dX2_readFirst_12 : decode cX2_readFirst 12 = .ok (.iconst (-1), 1) := by decide +kernel
theorem dX2_readFirst_13 : decode cX2_readFirst 13 = .ok (.if_icmp .eq 7, 3) := by decide +kernel
theorem dX2_readFirst_16 : decode cX2_readFirst 16 = .ok (.iconst 1, 1) := by decide +kernel
theorem dX2_readFirst_17 : decode cX2_readFirst 17 = .ok (.goto 4, 3) := by decide +kernel
theorem dX2_readFirst_20 : decode cX2_readFirst 20 = .ok (.iconst 0, 1) := by decide +kernel
theorem dX2_readFirst_21 : decode cX2_readFirst 21 = .ok (.ireturn, 1) := by decide +kernel
theorem dX2_readSecond_0 : decode cX2_readSecond 0 = .ok (.aload_n 0, 1) := by decide +kernel
theorem dX2_readSecond_1 : decode cX2_readSecond 1 = .ok (.aload_n 0, 1) := by decide +kernel
theorem dX2_readSecond_2 : decode cX2_readSecond 2 = .ok (.invokevirtual 62, 3) := by decide +kernel
theorem dX2_readSecond_5 : decode cX2_readSecond 5 = .ok (.putfield 69, 3) := by decide +kernel
theorem dX2_readSecond_8 : decode cX2_readSecond 8 = .ok (.aload_n 0, 1) := by decide +kernel
theorem dX2_readSecond_9 : decode cX2_readSecond 9 = .ok (.getfield 69, 3) := by decide +kernel
theorem dX2_readSecond_12 : decode cX2_readSecond 12 = .ok (.iconst (-1), 1) := by decide +kernel
theorem dX2_readSecond_13 : decode cX2_readSecond 13 = .ok (.if_icmp .eq 7, 3) := by decide +kernel
theorem dX2_readSecond_16 : decode cX2_readSecond 16 = .ok (.iconst 1, 1) := by decide +kernel
theorem dX2_readSecond_17 : decode cX2_readSecond 17 = .ok (.goto 4, 3) := by decide +kernel
theorem dX2_readSecond_20 : decode cX2_readSecond 20 = .ok (.iconst 0, 1) := by decide +kernel
theorem dX2_readSecond_21 : decode cX2_readSecond 21 = .ok (.ireturn, 1) := by decide +kernel
theorem dX2_readNumber_0 : decode cX2_readNumber 0 = .ok (.aload_n 0, 1) := by decide +kernel
theorem dX2_readNumber_1 : decode cX2_readNumber 1 = .ok (.invokevirtual 38, 3) := by decide +kernel
theorem dX2_readNumber_4 : decode cX2_readNumber 4 = .ok (.invokestatic 72, 3) := by decide +kernel
theorem dX2_readNumber_7 : decode cX2_readNumber 7 = .ok (.ifCond .ne 5, 3) := by decide +kernel
theorem dX2_readNumber_10 : decode cX2_readNumber 10 = .ok (.iconst (-1), 1) := by decide +kernel
theorem dX2_readNumber_11 : decode cX2_readNumber 11 = .ok (.ireturn, 1) := by decide +kernel
theorem dX2_readNumber_12 : decode cX2_readNumber 12 = .ok (.aload_n 0, 1) := by decide +kernel
theorem dX2_readNumber_13 : decode cX2_readNumber 13 = .ok (.invokevirtual 38, 3) := by decide +kernel
theorem dX2_readNumber_16 : decode cX2_readNumber 16 = .ok (.bipush 48, 2) := by decide +kernel
theorem dX2_readNumber_18 : decode cX2_readNumber 18 = .ok (.isub, 1) := by decide +kernel
theorem dX2_readNumber_19 : decode cX2_readNumber 19 = .ok (.istore_n 1, 1) := by decide +kernel
theorem dX2_readNumber_20 : decode cX2_readNumber 20 = .ok (.aload_n 0, 1) := by decide +kernel
theorem dX2_readNumber_21 : decode cX2_readNumber 21 = .ok (.dup, 1) := by decide +kernel
theorem dX2_readNumber_22 : decode cX2_readNumber 22 = .ok (.getfield 28, 3) := by decide +kernel
theorem dX2_readNumber_25 : decode cX2_readNumber 25 = .ok (.iconst 1, 1) := by decide +kernel
theorem dX2_readNumber_26 : decode cX2_readNumber 26 = .ok (.iadd, 1) := by decide +kernel
theorem dX2_readNumber_27 : decode cX2_readNumber 27 = .ok (.putfield 28, 3) := by decide +kernel
theorem dX2_readNumber_30 : decode cX2_readNumber 30 = .ok (.iload_n 1, 1) := by decide +kernel
theorem dX2_readNumber_31 : decode cX2_readNumber 31 = .ok (.ifCond .ne 7, 3) := by decide +kernel
theorem dX2_readNumber_34 : decode cX2_readNumber 34 = .ok (.iconst 0, 1) := by decide +kernel
theorem dX2_readNumber_35 : decode cX2_readNumber 35 = .ok (.goto 4, 3) := by decide +kernel
theorem dX2_readNumber_38 : decode cX2_readNumber 38 = .ok (.iconst 2, 1) := by decide +kernel
theorem dX2_readNumber_39 : decode cX2_readNumber 39 = .ok (.istore_n 2, 1) := by decide +kernel
theorem dX2_readNumber_40 : decode cX2_readNumber 40 = .ok (.iconst 0, 1) := by decide +kernel
theorem dX2_readNumber_41 : decode cX2_readNumber 41 = .ok (.istore_n 3, 1) := by decide +kernel
theorem dX2_readNumber_42 : decode cX2_readNumber 42 = .ok (.iload_n 3, 1) := by decide +kernel
theorem dX2_readNumber_43 : decode cX2_readNumber 43 = .ok (.iload_n 2, 1) := by decide +kernel
theorem dX2_readNumber_44 : decode cX2_readNumber 44 = .ok (.if_icmp .ge 42, 3) := by decide +kernel
theorem dX2_readNumber_47 : decode cX2_readNumber 47 = .ok (.aload_n 0, 1) := by decide +kernel
theorem dX2_readNumber_48 : decode cX2_readNumber 48 = .ok (.invokevirtual 38, 3) := by decide +kernel
theorem dX2_readNumber_51 : decode cX2_readNumber 51 = .ok (.invokestatic 72, 3) := by decide +kernel
theorem dX2_readNumber_54 : decode cX2_readNumber 54 = .ok (.ifCond .eq 32, 3) := by decide +kernel
theorem dX2_readNumber_57 : decode cX2_readNumber 57 = .ok (.iload_n 1, 1) := by decide +kernel
theorem dX2_readNumber_58 : decode cX2_readNumber 58 = .ok (.bipush 10, 2) := by decide +kernel
theorem dX2_readNumber_60 : decode cX2_readNumber 60 = .ok (.imul, 1) := by decide +kernel
theorem dX2_readNumber_61 : decode cX2_readNumber 61 = .ok (.aload_n 0, 1) := by decide +kernel
theorem dX2_readNumber_62 : decode cX2_readNumber 62 = .ok (.invokevirtual 38, 3) := by decide +kernel
theorem dX2_readNumber_65 : decode cX2_readNumber 65 = .ok (.bipush 48, 2) := by decide +kernel
theorem dX2_readNumber_67 : decode cX2_readNumber 67 = .ok (.isub, 1) := by decide +kernel
theorem dX2_readNumber_68 : decode cX2_readNumber 68 = .ok (.iadd, 1) := by decide +kernel
theorem dX2_readNumber_69 : decode cX2_readNumber 69 = .ok (.istore_n 1, 1) := by decide +kernel
theorem dX2_readNumber_70 : decode cX2_readNumber 70 = .ok (.aload_n 0, 1) := by decide +kernel
theorem dX2_readNumber_71 : decode cX2_readNumber 71 = .ok (.dup, 1) := by decide +kernel
theorem dX2_readNumber_72 : decode cX2_readNumber 72 = .ok (.getfield 28, 3) := by decide +kernel
theorem dX2_readNumber_75 : decode cX2_readNumber 75 = .ok (.iconst 1, 1) := by decide +kernel
theorem dX2_readNumber_76 : decode cX2_readNumber 76 = .ok (.iadd, 1) := by decide +kernel
theorem dX2_readNumber_77 : decode cX2_readNumber 77 = .ok (.putfield 28, 3) := by decide +kernel
theorem dX2_readNumber_80 : decode cX2_readNumber 80 = .ok (.iinc 3 1, 3) := by decide +kernel
theorem dX2_readNumber_83 : decode cX2_readNumber 83 = .ok (.goto (-41), 3) := by decide +kernel
theorem dX2_readNumber_86 : decode cX2_readNumber 86 = .ok (.iload_n 1, 1) := by decide +kernel
theorem dX2_readNumber_87 : decode cX2_readNumber 87 = .ok (.ireturn, 1) := by decide +kernel
theorem dX2_isDigit_0 : decode cX2_isDigit 0 = .ok (.iload_n 0, 1) := by decide +kernel
theorem dX2_isDigit_1 : decode cX2_isDigit 1 = .ok (.bipush 48, 2) := by decide +kernel
theorem dX2_isDigit_3 : decode cX2_isDigit 3 = .ok (.if_icmp .lt 13, 3) := by decide +kernel
theorem dX2_isDigit_6 : decode cX2_isDigit 6 = .ok (.iload_n 0, 1) := by decide +kernel
theorem dX2_isDigit_7 : decode cX2_isDigit 7 = .ok (.bipush 57, 2) := by decide +kernel
theorem dX2_isDigit_9 : decode cX2_isDigit 9 = .ok (.if_icmp .gt 7, 3) := by decide +kernel
theorem dX2_isDigit_12 : decode cX2_isDigit 12 = .ok (.iconst 1, 1) := by decide +kernel
theorem dX2_isDigit_13 : decode cX2_isDigit 13 = .ok (.goto 4, 3) := by decide +kernel
theorem dX2_isDigit_16 : decode cX2_isDigit 16 = .ok (.iconst 0, 1) := by decide +kernel
theorem dX2_isDigit_17 : decode cX2_isDigit 17 = .ok (.ireturn, 1) := by decide +kernel
theorem dX2_signHere_0 : decode cX2_signHere 0 = .ok (.aload_n 0, 1) := by decide +kernel
theorem dX2_signHere_1 : decode cX2_signHere 1 = .ok (.getfield 28, 3) := by decide +kernel
theorem dX2_signHere_4 : decode cX2_signHere 4 = .ok (.ifCond .lt 35, 3) := by decide +kernel
theorem dX2_signHere_7 : decode cX2_signHere 7 = .ok (.aload_n 0, 1) := by decide +kernel
theorem dX2_signHere_8 : decode cX2_signHere 8 = .ok (.getfield 28, 3) := by decide +kernel
theorem dX2_signHere_11 : decode cX2_signHere 11 = .ok (.aload_n 0, 1) := by decide +kernel
theorem dX2_signHere_12 : decode cX2_signHere 12 = .ok (.getfield 15, 3) := by decide +kernel
theorem dX2_signHere_15 : decode cX2_signHere 15 = .ok (.if_icmp .ge 24, 3) := by decide +kernel
theorem dX2_signHere_18 : decode cX2_signHere 18 = .ok (.aload_n 0, 1) := by decide +kernel
theorem dX2_signHere_19 : decode cX2_signHere 19 = .ok (.getfield 28, 3) := by decide +kernel
theorem dX2_signHere_22 : decode cX2_signHere 22 = .ok (.bipush 80, 2) := by decide +kernel
theorem dX2_signHere_24 : decode cX2_signHere 24 = .ok (.if_icmp .ge 15, 3) := by decide +kernel
theorem dX2_signHere_27 : decode cX2_signHere 27 = .ok (.aload_n 0, 1) := by decide +kernel
theorem dX2_signHere_28 : decode cX2_signHere 28 = .ok (.getfield 9, 3) := by decide +kernel
theorem dX2_signHere_31 : decode cX2_signHere 31 = .ok (.aload_n 0, 1) := by decide +kernel
theorem dX2_signHere_32 : decode cX2_signHere 32 = .ok (.getfield 28, 3) := by decide +kernel
theorem dX2_signHere_35 : decode cX2_signHere 35 = .ok (.caload, 1) := by decide +kernel
theorem dX2_signHere_36 : decode cX2_signHere 36 = .ok (.goto 4, 3) := by decide +kernel
theorem dX2_signHere_39 : decode cX2_signHere 39 = .ok (.iconst 0, 1) := by decide +kernel
theorem dX2_signHere_40 : decode cX2_signHere 40 = .ok (.ireturn, 1) := by decide +kernel
theorem dX3_init_0 : decode cX3_init 0 = .ok (.aload_n 0, 1) := by decide +kernel
theorem dX3_init_1 : decode cX3_init 1 = .ok (.invokespecial 3, 3) := by decide +kernel
theorem dX3_init_4 : decode cX3_init 4 = .ok (.aload_n 0, 1) := by decide +kernel
theorem dX3_init_5 : decode cX3_init 5 = .ok (.bipush 7, 2) := by decide +kernel
theorem dX3_init_7 : decode cX3_init 7 = .ok (.newarray .int, 2) := by decide +kernel
theorem dX3_init_9 : decode cX3_init 9 = .ok (.putfield 9, 3) := by decide +kernel
theorem dX3_init_12 : decode cX3_init 12 = .ok (.aload_n 0, 1) := by decide +kernel
theorem dX3_init_13 : decode cX3_init 13 = .ok (.iconst 4, 1) := by decide +kernel
theorem dX3_init_14 : decode cX3_init 14 = .ok (.anewarray 15, 3) := by decide +kernel
theorem dX3_init_17 : decode cX3_init 17 = .ok (.putfield 17, 3) := by decide +kernel
theorem dX3_init_20 : decode cX3_init 20 = .ok (.getstatic 21, 3) := by decide +kernel
theorem dX3_init_23 : decode cX3_init 23 = .ok (.iconst 0, 1) := by decide +kernel
theorem dX3_init_24 : decode cX3_init 24 = .ok (.aload_n 0, 1) := by decide +kernel
theorem dX3_init_25 : decode cX3_init 25 = .ok (.getfield 9, 3) := by decide +kernel
theorem dX3_init_28 : decode cX3_init 28 = .ok (.iconst 0, 1) := by decide +kernel
theorem dX3_init_29 : decode cX3_init 29 = .ok (.bipush 7, 2) := by decide +kernel
theorem dX3_init_31 : decode cX3_init 31 = .ok (.invokestatic 24, 3) := by decide +kernel
theorem dX3_init_34 : decode cX3_init 34 = .ok (.iconst 0, 1) := by decide +kernel
theorem dX3_init_35 : decode cX3_init 35 = .ok (.istore_n 1, 1) := by decide +kernel
theorem dX3_init_36 : decode cX3_init 36 = .ok (.iload_n 1, 1) := by decide +kernel
theorem dX3_init_37 : decode cX3_init 37 = .ok (.iconst 4, 1) := by decide +kernel
theorem dX3_init_38 : decode cX3_init 38 = .ok (.if_icmp .ge 22, 3) := by decide +kernel
theorem dX3_init_41 : decode cX3_init 41 = .ok (.aload_n 0, 1) := by decide +kernel
theorem dX3_init_42 : decode cX3_init 42 = .ok (.getfield 17, 3) := by decide +kernel
theorem dX3_init_45 : decode cX3_init 45 = .ok (.iload_n 1, 1) := by decide +kernel
theorem dX3_init_46 : decode cX3_init 46 = .ok (.new 15, 3) := by decide +kernel
theorem dX3_init_49 : decode cX3_init 49 = .ok (.dup, 1) := by decide +kernel
theorem dX3_init_50 : decode cX3_init 50 = .ok (.invokespecial 30, 3) := by decide +kernel
theorem dX3_init_53 : decode cX3_init 53 = .ok (.aastore, 1) := by decide +kernel
theorem dX3_init_54 : decode cX3_init 54 = .ok (.iinc 1 1, 3) := by decide +kernel
theorem dX3_init_57 : decode cX3_init 57 = .ok (.goto (-21), 3) := by decide +kernel
theorem dX3_init_60 : decode cX3_init 60 = .ok (.return_, 1) := by decide +kernel
theorem dX3_copyFrom_0 : decode cX3_copyFrom 0 = .ok (.aload_n 1, 1) := by decide +kernel
theorem dX3_copyFrom_1 : decode cX3_copyFrom 1 = .ok (.getfield 9, 3) := by decide +kernel
theorem dX3_copyFrom_4 : decode cX3_copyFrom 4 = .ok (.iconst 0, 1) := by decide +kernel
theorem dX3_copyFrom_5 : decode cX3_copyFrom 5 = .ok (.aload_n 0, 1) := by decide +kernel
theorem dX3_copyFrom_6 : decode cX3_copyFrom 6 = .ok (.getfield 9, 3) := by decide +kernel
theorem dX3_copyFrom_9 : decode cX3_copyFrom 9 = .ok (.iconst 0, 1) := by decide +kernel
theorem dX3_copyFrom_10 : decode cX3_copyFrom 10 = .ok (.bipush 7, 2) := by decide +kernel
theorem dX3_copyFrom_12 : decode cX3_copyFrom 12 = .ok (.invokestatic 24, 3) := by decide +kernel
theorem dX3_copyFrom_15 : decode cX3_copyFrom 15 = .ok (.iconst 0, 1) := by decide +kernel
theorem dX3_copyFrom_16 : decode cX3_copyFrom 16 = .ok (.istore_n 2, 1) := by decide +kernel
theorem dX3_copyFrom_17 : decode cX3_copyFrom 17 = .ok (.iload_n 2, 1) := by decide +kernel
theorem dX3_copyFrom_18 : decode cX3_copyFrom 18 = .ok (.iconst 4, 1) := by decide +kernel
theorem dX3_copyFrom_19 : decode cX3_copyFrom 19 = .ok (.if_icmp .ge 24, 3) := by decide +kernel
theorem dX3_copyFrom_22 : decode cX3_copyFrom 22 = .ok (.aload_n 0, 1) := by decide +kernel
theorem dX3_copyFrom_23 : decode cX3_copyFrom 23 = .ok (.getfield 17, 3) := by decide +kernel
theorem dX3_copyFrom_26 : decode cX3_copyFrom 26 = .ok (.iload_n 2, 1) := by decide +kernel
theorem dX3_copyFrom_27 : decode cX3_copyFrom 27 = .ok (.aaload, 1) := by decide +kernel
theorem dX3_copyFrom_28 : decode cX3_copyFrom 28 = .ok (.aload_n 1, 1) := by decide +kernel
theorem dX3_copyFrom_29 : decode cX3_copyFrom 29 = .ok (.getfield 17, 3) := by decide +kernel
theorem dX3_copyFrom_32 : decode cX3_copyFrom 32 = .ok (.iload_n 2, 1) := by decide +kernel
theorem dX3_copyFrom_33 : decode cX3_copyFrom 33 = .ok (.aaload, 1) := by decide +kernel
theorem dX3_copyFrom_34 : decode cX3_copyFrom 34 = .ok (.invokevirtual 31, 3) := by decide +kernel
theorem dX3_copyFrom_37 : decode cX3_copyFrom 37 = .ok (.iinc 2 1, 3) := by decide +kernel
theorem dX3_copyFrom_40 : decode cX3_copyFrom 40 = .ok (.goto (-23), 3) := by decide +kernel
theorem dX3_copyFrom_43 : decode cX3_copyFrom 43 = .ok (.aload_n 0, 1) := by decide +kernel
theorem dX3_copyFrom_44 : decode cX3_copyFrom 44 = .ok (.aload_n 1, 1) := by decide +kernel
theorem dX3_copyFrom_45 : decode cX3_copyFrom 45 = .ok (.getfield 35, 3) := by decide +kernel
theorem dX3_copyFrom_48 : decode cX3_copyFrom 48 = .ok (.putfield 35, 3) := by decide +kernel
theorem dX3_copyFrom_51 : decode cX3_copyFrom 51 = .ok (.aload_n 0, 1) := by decide +kernel
theorem dX3_copyFrom_52 : decode cX3_copyFrom 52 = .ok (.aload_n 1, 1) := by decide +kernel
theorem dX3_copyFrom_53 : decode cX3_copyFrom 53 = .ok (.getfield 39, 3) := by decide +kernel
theorem dX3_copyFrom_56 : decode cX3_copyFrom 56 = .ok (.putfield 39, 3) := by decide +kernel
