theorem dX3_copyFrom_59 : decode cX3_copyFrom 59 = .ok (.aload_n 0, 1) := by decide +kernel
theorem dX3_copyFrom_60 : decode cX3_copyFrom 60 = .ok (.aload_n 1, 1) := by decide +kernel
theorem dX3_copyFrom_61 : decode cX3_copyFrom 61 = .ok (.getfield 42, 3) := by decide +kernel
theorem dX3_copyFrom_64 : decode cX3_copyFrom 64 = .ok (.putfield 42, 3) := by decide +kernel
theorem dX3_copyFrom_67 : decode cX3_copyFrom 67 = .ok (.aload_n 0, 1) := by decide +kernel
theorem dX3_copyFrom_68 : decode cX3_copyFrom 68 = .ok (.aload_n 1, 1) := by decide +kernel
theorem dX3_copyFrom_69 : decode cX3_copyFrom 69 = .ok (.getfield 45, 3) := by decide +kernel
theorem dX3_copyFrom_72 : decode cX3_copyFrom 72 = .ok (.putfield 45, 3) := by decide +kernel
theorem dX3_copyFrom_75 : decode cX3_copyFrom 75 = .ok (.aload_n 0, 1) := by decide +kernel
theorem dX3_copyFrom_76 : decode cX3_copyFrom 76 = .ok (.aload_n 1, 1) := by decide +kernel
theorem dX3_copyFrom_77 : decode cX3_copyFrom 77 = .ok (.getfield 48, 3) := by decide +kernel
theorem dX3_copyFrom_80 : decode cX3_copyFrom 80 = .ok (.putfield 48, 3) := by decide +kernel
theorem dX3_copyFrom_83 : decode cX3_copyFrom 83 = .ok (.return_, 1) := by decide +kernel
theorem dX3_hourOfNow_0 : decode cX3_hourOfNow 0 = .ok (.aload_n 0, 1) := by decide +kernel
theorem dX3_hourOfNow_1 : decode cX3_hourOfNow 1 = .ok (.getfield 35, 3) := by decide +kernel
theorem dX3_hourOfNow_4 : decode cX3_hourOfNow 4 = .ok (.bipush 60, 2) := by decide +kernel
theorem dX3_hourOfNow_6 : decode cX3_hourOfNow 6 = .ok (.idiv, 1) := by decide +kernel
theorem dX3_hourOfNow_7 : decode cX3_hourOfNow 7 = .ok (.ireturn, 1) := by decide +kernel
theorem dX3_changeSetting_0 : decode cX3_changeSetting 0 = .ok (.iload_n 1, 1) := by decide +kernel
theorem dX3_changeSetting_1 : decode cX3_changeSetting 1 = .ok (.ifCond .lt 9, 3) := by decide +kernel
theorem dX3_changeSetting_4 : decode cX3_changeSetting 4 = .ok (.iload_n 1, 1) := by decide +kernel
theorem dX3_changeSetting_5 : decode cX3_changeSetting 5 = .ok (.bipush 7, 2) := by decide +kernel
theorem dX3_changeSetting_7 : decode cX3_changeSetting 7 = .ok (.if_icmp .lt 6, 3) := by decide +kernel
theorem dX3_changeSetting_10 : decode cX3_changeSetting 10 = .ok (.bipush (-2), 2) := by decide +kernel
theorem dX3_changeSetting_12 : decode cX3_changeSetting 12 = .ok (.ireturn, 1) := by decide +kernel
theorem dX3_changeSetting_13 : decode cX3_changeSetting 13 = .ok (.iload_n 2, 1) := by decide +kernel
theorem dX3_changeSetting_14 : decode cX3_changeSetting 14 = .ok (.getstatic 51, 3) := by decide +kernel
theorem dX3_changeSetting_17 : decode cX3_changeSetting 17 = .ok (.iload_n 1, 1) := by decide +kernel
theorem dX3_changeSetting_18 : decode cX3_changeSetting 18 = .ok (.iaload, 1) := by decide +kernel
theorem dX3_changeSetting_19 : decode cX3_changeSetting 19 = .ok (.if_icmp .lt 12, 3) := by decide +kernel
theorem dX3_changeSetting_22 : decode cX3_changeSetting 22 = .ok (.iload_n 2, 1) := by decide +kernel
theorem dX3_changeSetting_23 : decode cX3_changeSetting 23 = .ok (.getstatic 54, 3) := by decide +kernel
theorem dX3_changeSetting_26 : decode cX3_changeSetting 26 = .ok (.iload_n 1, 1) := by decide +kernel
theorem dX3_changeSetting_27 : decode cX3_changeSetting 27 = .ok (.iaload, 1) := by decide +kernel
theorem dX3_changeSetting_28 : decode cX3_changeSetting 28 = .ok (.if_icmp .le 6, 3) := by decide +kernel
theorem dX3_changeSetting_31 : decode cX3_changeSetting 31 = .ok (.bipush (-2), 2) := by decide +kernel
theorem dX3_changeSetting_33 : decode cX3_changeSetting 33 = .ok (.ireturn, 1) := by decide +kernel
theorem dX3_changeSetting_34 : decode cX3_changeSetting 34 = .ok (.aload_n 0, 1) := by decide +kernel
theorem dX3_changeSetting_35 : decode cX3_changeSetting 35 = .ok (.getfield 9, 3) := by decide +kernel
theorem dX3_changeSetting_38 : decode cX3_changeSetting 38 = .ok (.iload_n 1, 1) := by decide +kernel
theorem dX3_changeSetting_39 : decode cX3_changeSetting 39 = .ok (.iaload, 1) := by decide +kernel
theorem dX3_changeSetting_40 : decode cX3_changeSetting 40 = .ok (.istore_n 3, 1) := by decide +kernel
theorem dX3_changeSetting_41 : decode cX3_changeSetting 41 = .ok (.aload_n 0, 1) := by decide +kernel
theorem dX3_changeSetting_42 : decode cX3_changeSetting 42 = .ok (.getfield 9, 3) := by decide +kernel
theorem dX3_changeSetting_45 : decode cX3_changeSetting 45 = .ok (.iload_n 1, 1) := by decide +kernel
theorem dX3_changeSetting_46 : decode cX3_changeSetting 46 = .ok (.iload_n 2, 1) := by decide +kernel
theorem dX3_changeSetting_47 : decode cX3_changeSetting 47 = .ok (.iastore, 1) := by decide +kernel
theorem dX3_changeSetting_48 : decode cX3_changeSetting 48 = .ok (.iload_n 3, 1) := by decide +kernel
theorem dX3_changeSetting_49 : decode cX3_changeSetting 49 = .ok (.ireturn, 1) := by decide +kernel
theorem dX3_changeStream_0 : decode cX3_changeStream 0 = .ok (.iload_n 1, 1) := by decide +kernel
theorem dX3_changeStream_1 : decode cX3_changeStream 1 = .ok (.invokestatic 57, 3) := by decide +kernel
theorem dX3_changeStream_4 : decode cX3_changeStream 4 = .ok (.ifCond .ne 5, 3) := by decide +kernel
theorem dX3_changeStream_7 : decode cX3_changeStream 7 = .ok (.iconst (-1), 1) := by decide +kernel
theorem dX3_changeStream_8 : decode cX3_changeStream 8 = .ok (.ireturn, 1) := by decide +kernel
theorem dX3_changeStream_9 : decode cX3_changeStream 9 = .ok (.iload_n 2, 1) := by decide +kernel
theorem dX3_changeStream_10 : decode cX3_changeStream 10 = .ok (.iconst 1, 1) := by decide +kernel
theorem dX3_changeStream_11 : decode cX3_changeStream 11 = .ok (.if_icmp .lt 19, 3) := by decide +kernel
theorem dX3_changeStream_14 : decode cX3_changeStream 14 = .ok (.iload_n 2, 1) := by decide +kernel
theorem dX3_changeStream_15 : decode cX3_changeStream 15 = .ok (.bipush 60, 2) := by decide +kernel
theorem dX3_changeStream_17 : decode cX3_changeStream 17 = .ok (.if_icmp .gt 13, 3) := by decide +kernel
theorem dX3_changeStream_20 : decode cX3_changeStream 20 = .ok (.iload_n 3, 1) := by decide +kernel
theorem dX3_changeStream_21 : decode cX3_changeStream 21 = .ok (.ifCond .lt 9, 3) := by decide +kernel
theorem dX3_changeStream_24 : decode cX3_changeStream 24 = .ok (.iload_n 3, 1) := by decide +kernel
theorem dX3_changeStream_25 : decode cX3_changeStream 25 = .ok (.bipush 20, 2) := by decide +kernel
theorem dX3_changeStream_27 : decode cX3_changeStream 27 = .ok (.if_icmp .le 6, 3) := by decide +kernel
theorem dX3_changeStream_30 : decode cX3_changeStream 30 = .ok (.bipush (-2), 2) := by decide +kernel
theorem dX3_changeStream_32 : decode cX3_changeStream 32 = .ok (.ireturn, 1) := by decide +kernel
theorem dX3_changeStream_33 : decode cX3_changeStream 33 = .ok (.aload_n 0, 1) := by decide +kernel
theorem dX3_changeStream_34 : decode cX3_changeStream 34 = .ok (.getfield 17, 3) := by decide +kernel
theorem dX3_changeStream_37 : decode cX3_changeStream 37 = .ok (.iload_n 1, 1) := by decide +kernel
theorem dX3_changeStream_38 : decode cX3_changeStream 38 = .ok (.aaload, 1) := by decide +kernel
theorem dX3_changeStream_39 : decode cX3_changeStream 39 = .ok (.getfield 61, 3) := by decide +kernel
theorem dX3_changeStream_42 : decode cX3_changeStream 42 = .ok (.istore 4, 2) := by decide +kernel
theorem dX3_changeStream_44 : decode cX3_changeStream 44 = .ok (.aload_n 0, 1) := by decide +kernel
theorem dX3_changeStream_45 : decode cX3_changeStream 45 = .ok (.getfield 17, 3) := by decide +kernel
theorem dX3_changeStream_48 : decode cX3_changeStream 48 = .ok (.iload_n 1, 1) := by decide +kernel
theorem dX3_changeStream_49 : decode cX3_changeStream 49 = .ok (.aaload, 1) := by decide +kernel
theorem dX3_changeStream_50 : decode cX3_changeStream 50 = .ok (.iload_n 2, 1) := by decide +kernel
theorem dX3_changeStream_51 : decode cX3_changeStream 51 = .ok (.putfield 64, 3) := by decide +kernel
theorem dX3_changeStream_54 : decode cX3_changeStream 54 = .ok (.aload_n 0, 1) := by decide +kernel
theorem dX3_changeStream_55 : decode cX3_changeStream 55 = .ok (.getfield 17, 3) := by decide +kernel
theorem dX3_changeStream_58 : decode cX3_changeStream 58 = .ok (.iload_n 1, 1) := by decide +kernel
theorem dX3_changeStream_59 : decode cX3_changeStream 59 = .ok (.aaload, 1) := by decide +kernel
theorem dX3_changeStream_60 : decode cX3_changeStream 60 = .ok (.iload_n 3, 1) := by decide +kernel
theorem dX3_changeStream_61 : decode cX3_changeStream 61 = .ok (.putfield 61, 3) := by decide +kernel
theorem dX3_changeStream_64 : decode cX3_changeStream 64 = .ok (.iload 4, 2) := by decide +kernel
theorem dX3_changeStream_66 : decode cX3_changeStream 66 = .ok (.ireturn, 1) := by decide +kernel
theorem dX3_bringUnits_0 : decode cX3_bringUnits 0 = .ok (.iload_n 1, 1) := by decide +kernel
theorem dX3_bringUnits_1 : decode cX3_bringUnits 1 = .ok (.invokestatic 57, 3) := by decide +kernel
theorem dX3_bringUnits_4 : decode cX3_bringUnits 4 = .ok (.ifCond .ne 5, 3) := by decide +kernel
theorem dX3_bringUnits_7 : decode cX3_bringUnits 7 = .ok (.iconst (-1), 1) := by decide +kernel
theorem dX3_bringUnits_8 : decode cX3_bringUnits 8 = .ok (.ireturn, 1) := by decide +kernel
theorem dX3_bringUnits_9 : decode cX3_bringUnits 9 = .ok (.iload_n 2, 1) := by decide +kernel
theorem dX3_bringUnits_10 : decode cX3_bringUnits 10 = .ok (.iconst 1, 1) := by decide +kernel
theorem dX3_bringUnits_11 : decode cX3_bringUnits 11 = .ok (.if_icmp .lt 10, 3) := by decide +kernel
theorem dX3_bringUnits_14 : decode cX3_bringUnits 14 = .ok (.iload_n 2, 1) := by decide +kernel
theorem dX3_bringUnits_15 : decode cX3_bringUnits 15 = .ok (.sipush 200, 3) := by decide +kernel
theorem dX3_bringUnits_18 : decode cX3_bringUnits 18 = .ok (.if_icmp .le 6, 3) := by decide +kernel
theorem dX3_bringUnits_21 : decode cX3_bringUnits 21 = .ok (.bipush (-2), 2) := by decide +kernel
theorem dX3_bringUnits_23 : decode cX3_bringUnits 23 = .ok (.ireturn, 1) := by decide +kernel
theorem dX3_bringUnits_24 : decode cX3_bringUnits 24 = .ok (.aload_n 0, 1) := by decide +kernel
theorem dX3_bringUnits_25 : decode cX3_bringUnits 25 = .ok (.getfield 17, 3) := by decide +kernel
theorem dX3_bringUnits_28 : decode cX3_bringUnits 28 = .ok (.iload_n 1, 1) := by decide +kernel
theorem dX3_bringUnits_29 : decode cX3_bringUnits 29 = .ok (.aaload, 1) := by decide +kernel
theorem dX3_bringUnits_30 : decode cX3_bringUnits 30 = .ok (.getfield 67, 3) := by decide +kernel
theorem dX3_bringUnits_33 : decode cX3_bringUnits 33 = .ok (.sipush 9999, 3) := by decide +kernel
theorem dX3_bringUnits_36 : decode cX3_bringUnits 36 = .ok (.iload_n 2, 1) := by decide +kernel
theorem dX3_bringUnits_37 : decode cX3_bringUnits 37 = .ok (.isub, 1) := by decide +kernel
theorem dX3_bringUnits_38 : decode cX3_bringUnits 38 = .ok (.if_icmp .le 6, 3) := by decide +kernel
theorem dX3_bringUnits_41 : decode cX3_bringUnits 41 = .ok (.bipush (-4), 2) := by decide +kernel
theorem dX3_bringUnits_43 : decode cX3_bringUnits 43 = .ok (.ireturn, 1) := by decide +kernel
theorem dX3_bringUnits_44 : decode cX3_bringUnits 44 = .ok (.aload_n 0, 1) := by decide +kernel
theorem dX3_bringUnits_45 : decode cX3_bringUnits 45 = .ok (.getfield 17, 3) := by decide +kernel
theorem dX3_bringUnits_48 : decode cX3_bringUnits 48 = .ok (.iload_n 1, 1) := by decide +kernel
theorem dX3_bringUnits_49 : decode cX3_bringUnits 49 = .ok (.aaload, 1) := by decide +kernel
theorem dX3_bringUnits_50 : decode cX3_bringUnits 50 = .ok (.dup, 1) := by decide +kernel
theorem dX3_bringUnits_51 : decode cX3_bringUnits 51 = .ok (.getfield 67, 3) := by decide +kernel
theorem dX3_bringUnits_54 : decode cX3_bringUnits 54 = .ok (.iload_n 2, 1) := by decide +kernel
theorem dX3_bringUnits_55 : decode cX3_bringUnits 55 = .ok (.iadd, 1) := by decide +kernel
theorem dX3_bringUnits_56 : decode cX3_bringUnits 56 = .ok (.putfield 67, 3) := by decide +kernel
theorem dX3_bringUnits_59 : decode cX3_bringUnits 59 = .ok (.aload_n 0, 1) := by decide +kernel
theorem dX3_bringUnits_60 : decode cX3_bringUnits 60 = .ok (.getfield 17, 3) := by decide +kernel
theorem dX3_bringUnits_63 : decode cX3_bringUnits 63 = .ok (.iload_n 1, 1) := by decide +kernel
theorem dX3_bringUnits_64 : decode cX3_bringUnits 64 = .ok (.aaload, 1) := by decide +kernel
theorem dX3_bringUnits_65 : decode cX3_bringUnits 65 = .ok (.getfield 67, 3) := by decide +kernel
theorem dX3_bringUnits_68 : decode cX3_bringUnits 68 = .ok (.ireturn, 1) := by decide +kernel
theorem dX3_sellHour_0 : decode cX3_sellHour 0 = .ok (.aload_n 0, 1) := by decide +kernel
theorem dX3_sellHour_1 : decode cX3_sellHour 1 = .ok (.iload_n 1, 1) := by decide +kernel
theorem dX3_sellHour_2 : decode cX3_sellHour 2 = .ok (.iload_n 2, 1) := by decide +kernel
theorem dX3_sellHour_3 : decode cX3_sellHour 3 = .ok (.iconst 0, 1) := by decide +kernel
theorem dX3_sellHour_4 : decode cX3_sellHour 4 = .ok (.iconst 1, 1) := by decide +kernel
theorem dX3_sellHour_5 : decode cX3_sellHour 5 = .ok (.invokevirtual 70, 3) := by decide +kernel
theorem dX3_sellHour_8 : decode cX3_sellHour 8 = .ok (.ireturn, 1) := by decide +kernel
theorem dX3_takeHourBack_0 : decode cX3_takeHourBack 0 = .ok (.aload_n 0, 1) := by decide +kernel
theorem dX3_takeHourBack_1 : decode cX3_takeHourBack 1 = .ok (.iload_n 1, 1) := by decide +kernel
theorem dX3_takeHourBack_2 : decode cX3_takeHourBack 2 = .ok (.iload_n 2, 1) := by decide +kernel
theorem dX3_takeHourBack_3 : decode cX3_takeHourBack 3 = .ok (.iconst 1, 1) := by decide +kernel
theorem dX3_takeHourBack_4 : decode cX3_takeHourBack 4 = .ok (.iconst 0, 1) := by decide +kernel
theorem dX3_takeHourBack_5 : decode cX3_takeHourBack 5 = .ok (.invokevirtual 70, 3) := by decide +kernel
theorem dX3_takeHourBack_8 : decode cX3_takeHourBack 8 = .ok (.ireturn, 1) := by decide +kernel
theorem dX3_changeHour_0 : decode cX3_changeHour 0 = .ok (.iload_n 1, 1) := by decide +kernel
theorem dX3_changeHour_1 : decode cX3_changeHour 1 = .ok (.invokestatic 57, 3) := by decide +kernel
theorem dX3_changeHour_4 : decode cX3_changeHour 4 = .ok (.ifCond .ne 5, 3) := by decide +kernel
theorem dX3_changeHour_7 : decode cX3_changeHour 7 = .ok (.iconst (-1), 1) := by decide +kernel
theorem dX3_changeHour_8 : decode cX3_changeHour 8 = .ok (.ireturn, 1) := by decide +kernel
theorem dX3_changeHour_9 : decode cX3_changeHour 9 = .ok (.iload_n 2, 1) := by decide +kernel
theorem dX3_changeHour_10 : decode cX3_changeHour 10 = .ok (.invokestatic 74, 3) := by decide +kernel
theorem dX3_changeHour_13 : decode cX3_changeHour 13 = .ok (.ifCond .ne 6, 3) := by decide +kernel
theorem dX3_changeHour_16 : decode cX3_changeHour 16 = .ok (.bipush (-2), 2) := by decide +kernel
theorem dX3_changeHour_18 : decode cX3_changeHour 18 = .ok (.ireturn, 1) := by decide +kernel
theorem dX3_changeHour_19 : decode cX3_changeHour 19 = .ok (.iload_n 2, 1) := by decide +kernel
theorem dX3_changeHour_20 : decode cX3_changeHour 20 = .ok (.aload_n 0, 1) := by decide +kernel
theorem dX3_changeHour_21 : decode cX3_changeHour 21 = .ok (.invokevirtual 77, 3) := by decide +kernel
theorem dX3_changeHour_24 : decode cX3_changeHour 24 = .ok (.if_icmp .le 17, 3) := by decide +kernel
theorem dX3_changeHour_27 : decode cX3_changeHour 27 = .ok (.aload_n 0, 1) := by decide +kernel
theorem dX3_changeHour_28 : decode cX3_changeHour 28 = .ok (.getfield 17, 3) := by decide +kernel
theorem dX3_changeHour_31 : decode cX3_changeHour 31 = .ok (.iload_n 1, 1) := by decide +kernel
theorem dX3_changeHour_32 : decode cX3_changeHour 32 = .ok (.aaload, 1) := by decide +kernel
theorem dX3_changeHour_33 : decode cX3_changeHour 33 = .ok (.iload_n 2, 1) := by decide +kernel
theorem dX3_changeHour_34 : decode cX3_changeHour 34 = .ok (.invokevirtual 81, 3) := by decide +kernel
theorem dX3_changeHour_37 : decode cX3_changeHour 37 = .ok (.iload_n 3, 1) := by decide +kernel
theorem dX3_changeHour_38 : decode cX3_changeHour 38 = .ok (.if_icmp .eq 6, 3) := by decide +kernel
theorem dX3_changeHour_41 : decode cX3_changeHour 41 = .ok (.bipush (-5), 2) := by decide +kernel
theorem dX3_changeHour_43 : decode cX3_changeHour 43 = .ok (.ireturn, 1) := by decide +kernel
theorem dX3_changeHour_44 : decode cX3_changeHour 44 = .ok (.aload_n 0, 1) := by decide +kernel
theorem dX3_changeHour_45 : decode cX3_changeHour 45 = .ok (.getfield 17, 3) := by decide +kernel
theorem dX3_changeHour_48 : decode cX3_changeHour 48 = .ok (.iload_n 1, 1) := by decide +kernel
theorem dX3_changeHour_49 : decode cX3_changeHour 49 = .ok (.aaload, 1) := by decide +kernel
theorem dX3_changeHour_50 : decode cX3_changeHour 50 = .ok (.iload_n 2, 1) := by decide +kernel
theorem dX3_changeHour_51 : decode cX3_changeHour 51 = .ok (.iload 4, 2) := by decide +kernel
theorem dX3_changeHour_53 : decode cX3_changeHour 53 = .ok (.invokevirtual 85, 3) := by decide +kernel
theorem dX3_changeHour_56 : decode cX3_changeHour 56 = .ok (.aload_n 0, 1) := by decide +kernel
theorem dX3_changeHour_57 : decode cX3_changeHour 57 = .ok (.getfield 17, 3) := by decide +kernel
theorem dX3_changeHour_60 : decode cX3_changeHour 60 = .ok (.iload_n 1, 1) := by decide +kernel
theorem dX3_changeHour_61 : decode cX3_changeHour 61 = .ok (.aaload, 1) := by decide +kernel
theorem dX3_changeHour_62 : decode cX3_changeHour 62 = .ok (.invokevirtual 89, 3) := by decide +kernel
theorem dX3_changeHour_65 : decode cX3_changeHour 65 = .ok (.ireturn, 1) := by decide +kernel
theorem dX3_passMinutes_0 : decode cX3_passMinutes 0 = .ok (.iload_n 1, 1) := by decide +kernel
theorem dX3_passMinutes_1 : decode cX3_passMinutes 1 = .ok (.invokestatic 92, 3) := by decide +kernel
theorem dX3_passMinutes_4 : decode cX3_passMinutes 4 = .ok (.ifCond .ne 6, 3) := by decide +kernel
theorem dX3_passMinutes_7 : decode cX3_passMinutes 7 = .ok (.bipush (-2), 2) := by decide +kernel
theorem dX3_passMinutes_9 : decode cX3_passMinutes 9 = .ok (.ireturn, 1) := by decide +kernel
theorem dX3_passMinutes_10 : decode cX3_passMinutes 10 = .ok (.iconst 0, 1) := by decide +kernel
theorem dX3_passMinutes_11 : decode cX3_passMinutes 11 = .ok (.istore_n 2, 1) := by decide +kernel
theorem dX3_passMinutes_12 : decode cX3_passMinutes 12 = .ok (.iload_n 2, 1) := by decide +kernel
theorem dX3_passMinutes_13 : decode cX3_passMinutes 13 = .ok (.iload_n 1, 1) := by decide +kernel
theorem dX3_passMinutes_14 : decode cX3_passMinutes 14 = .ok (.if_icmp .ge 14, 3) := by decide +kernel
theorem dX3_passMinutes_17 : decode cX3_passMinutes 17 = .ok (.aload_n 0, 1) := by decide +kernel
theorem dX3_passMinutes_18 : decode cX3_passMinutes 18 = .ok (.invokevirtual 95, 3) := by decide +kernel
theorem dX3_passMinutes_21 : decode cX3_passMinutes 21 = .ok (.pop, 1) := by decide +kernel
theorem dX3_passMinutes_22 : decode cX3_passMinutes 22 = .ok (.iinc 2 1, 3) := by decide +kernel
theorem dX3_passMinutes_25 : decode cX3_passMinutes 25 = .ok (.goto (-13), 3) := by decide +kernel
theorem dX3_passMinutes_28 : decode cX3_passMinutes 28 = .ok (.aload_n 0, 1) := by decide +kernel
theorem dX3_passMinutes_29 : decode cX3_passMinutes 29 = .ok (.getfield 35, 3) := by decide +kernel
theorem dX3_passMinutes_32 : decode cX3_passMinutes 32 = .ok (.ireturn, 1) := by decide +kernel
theorem dX3_passesWithoutOverrun_0 : decode cX3_passesWithoutOverrun 0 = .ok (.iconst 0, 1) := by decide +kernel
theorem dX3_passesWithoutOverrun_1 : decode cX3_passesWithoutOverrun 1 = .ok (.istore_n 2, 1) := by decide +kernel
theorem dX3_passesWithoutOverrun_2 : decode cX3_passesWithoutOverrun 2 = .ok (.iload_n 2, 1) := by decide +kernel
theorem dX3_passesWithoutOverrun_3 : decode cX3_passesWithoutOverrun 3 = .ok (.iload_n 1, 1) := by decide +kernel
theorem dX3_passesWithoutOverrun_4 : decode cX3_passesWithoutOverrun 4 = .ok (.if_icmp .ge 18, 3) := by decide +kernel
theorem dX3_passesWithoutOverrun_7 : decode cX3_passesWithoutOverrun 7 = .ok (.aload_n 0, 1) := by decide +kernel
theorem dX3_passesWithoutOverrun_8 : decode cX3_passesWithoutOverrun 8 = .ok (.invokevirtual 95, 3) := by decide +kernel
theorem dX3_passesWithoutOverrun_11 : decode cX3_passesWithoutOverrun 11 = .ok (.ifCond .eq 5, 3) := by decide +kernel
theorem dX3_passesWithoutOverrun_14 : decode cX3_passesWithoutOverrun 14 = .ok (.iconst 0, 1) := by decide +kernel
theorem dX3_passesWithoutOverrun_15 : decode cX3_passesWithoutOverrun 15 = .ok (.ireturn, 1) := by decide +kernel
theorem dX3_passesWithoutOverrun_16 : decode cX3_passesWithoutOverrun 16 = .ok (.iinc 2 1, 3) := by decide +kernel
theorem dX3_passesWithoutOverrun_19 : decode cX3_passesWithoutOverrun 19 = .ok (.goto (-17), 3) := by decide +kernel
theorem dX3_passesWithoutOverrun_22 : decode cX3_passesWithoutOverrun 22 = .ok (.iconst 1, 1) := by decide +kernel
theorem dX3_passesWithoutOverrun_23 : decode cX3_passesWithoutOverrun 23 = .ok (.ireturn, 1) := by decide +kernel
theorem dX3_passOneMinute_0 : decode cX3_passOneMinute 0 = .ok (.iconst 0, 1) := by decide +kernel
theorem dX3_passOneMinute_1 : decode cX3_passOneMinute 1 = .ok (.istore_n 1, 1) := by decide +kernel
theorem dX3_passOneMinute_2 : decode cX3_passOneMinute 2 = .ok (.iconst 0, 1) := by decide +kernel
theorem dX3_passOneMinute_3 : decode cX3_passOneMinute 3 = .ok (.istore_n 2, 1) := by decide +kernel
theorem dX3_passOneMinute_4 : decode cX3_passOneMinute 4 = .ok (.iload_n 2, 1) := by decide +kernel
theorem dX3_passOneMinute_5 : decode cX3_passOneMinute 5 = .ok (.iconst 4, 1) := by decide +kernel
theorem dX3_passOneMinute_6 : decode cX3_passOneMinute 6 = .ok (.if_icmp .ge 33, 3) := by decide +kernel
theorem dX3_passOneMinute_9 : decode cX3_passOneMinute 9 = .ok (.aload_n 0, 1) := by decide +kernel
theorem dX3_passOneMinute_10 : decode cX3_passOneMinute 10 = .ok (.aload_n 0, 1) := by decide +kernel
theorem dX3_passOneMinute_11 : decode cX3_passOneMinute 11 = .ok (.getfield 17, 3) := by decide +kernel
theorem dX3_passOneMinute_14 : decode cX3_passOneMinute 14 = .ok (.iload_n 2, 1) := by decide +kernel
theorem dX3_passOneMinute_15 : decode cX3_passOneMinute 15 = .ok (.aaload, 1) := by decide +kernel
theorem dX3_passOneMinute_16 : decode cX3_passOneMinute 16 = .ok (.aload_n 0, 1) := by decide +kernel
theorem dX3_passOneMinute_17 : decode cX3_passOneMinute 17 = .ok (.getfield 17, 3) := by decide +kernel
theorem dX3_passOneMinute_20 : decode cX3_passOneMinute 20 = .ok (.iload_n 2, 1) := by decide +kernel
theorem dX3_passOneMinute_21 : decode cX3_passOneMinute 21 = .ok (.invokestatic 99, 3) := by decide +kernel
theorem dX3_passOneMinute_24 : decode cX3_passOneMinute 24 = .ok (.aaload, 1) := by decide +kernel
theorem dX3_passOneMinute_25 : decode cX3_passOneMinute 25 = .ok (.invokevirtual 102, 3) := by decide +kernel
theorem dX3_passOneMinute_28 : decode cX3_passOneMinute 28 = .ok (.ifCond .eq 5, 3) := by decide +kernel
theorem dX3_passOneMinute_31 : decode cX3_passOneMinute 31 = .ok (.iconst 1, 1) := by decide +kernel
theorem dX3_passOneMinute_32 : decode cX3_passOneMinute 32 = .ok (.istore_n 1, 1) := by decide +kernel
theorem dX3_passOneMinute_33 : decode cX3_passOneMinute 33 = .ok (.iinc 2 1, 3) := by decide +kernel
theorem dX3_passOneMinute_36 : decode cX3_passOneMinute 36 = .ok (.goto (-32), 3) := by decide +kernel
theorem dX3_passOneMinute_39 : decode cX3_passOneMinute 39 = .ok (.aload_n 0, 1) := by decide +kernel
theorem dX3_passOneMinute_40 : decode cX3_passOneMinute 40 = .ok (.dup, 1) := by decide +kernel
theorem dX3_passOneMinute_41 : decode cX3_passOneMinute 41 = .ok (.getfield 35, 3) := by decide +kernel
theorem dX3_passOneMinute_44 : decode cX3_passOneMinute 44 = .ok (.iconst 1, 1) := by decide +kernel
theorem dX3_passOneMinute_45 : decode cX3_passOneMinute 45 = .ok (.iadd, 1) := by decide +kernel
theorem dX3_passOneMinute_46 : decode cX3_passOneMinute 46 = .ok (.putfield 35, 3) := by decide +kernel
theorem dX3_passOneMinute_49 : decode cX3_passOneMinute 49 = .ok (.iload_n 1, 1) := by decide +kernel
theorem dX3_passOneMinute_50 : decode cX3_passOneMinute 50 = .ok (.ireturn, 1) := by decide +kernel
theorem dX3_passMinuteOf_0 : decode cX3_passMinuteOf 0 = .ok (.aload_n 0, 1) := by decide +kernel
theorem dX3_passMinuteOf_1 : decode cX3_passMinuteOf 1 = .ok (.invokevirtual 77, 3) := by decide +kernel
theorem dX3_passMinuteOf_4 : decode cX3_passMinuteOf 4 = .ok (.istore_n 3, 1) := by decide +kernel
theorem dX3_passMinuteOf_5 : decode cX3_passMinuteOf 5 = .ok (.aload_n 1, 1) := by decide +kernel
theorem dX3_passMinuteOf_6 : decode cX3_passMinuteOf 6 = .ok (.iload_n 3, 1) := by decide +kernel
theorem dX3_passMinuteOf_7 : decode cX3_passMinuteOf 7 = .ok (.invokevirtual 106, 3) := by decide +kernel
theorem dX3_passMinuteOf_10 : decode cX3_passMinuteOf 10 = .ok (.istore 4, 2) := by decide +kernel
theorem dX3_passMinuteOf_12 : decode cX3_passMinuteOf 12 = .ok (.aload_n 0, 1) := by decide +kernel
theorem dX3_passMinuteOf_13 : decode cX3_passMinuteOf 13 = .ok (.getfield 35, 3) := by decide +kernel
theorem dX3_passMinuteOf_16 : decode cX3_passMinuteOf 16 = .ok (.bipush 60, 2) := by decide +kernel
theorem dX3_passMinuteOf_18 : decode cX3_passMinuteOf 18 = .ok (.irem, 1) := by decide +kernel
theorem dX3_passMinuteOf_19 : decode cX3_passMinuteOf 19 = .ok (.ifCond .ne 11, 3) := by decide +kernel
theorem dX3_passMinuteOf_22 : decode cX3_passMinuteOf 22 = .ok (.aload_n 0, 1) := by decide +kernel
theorem dX3_passMinuteOf_23 : decode cX3_passMinuteOf 23 = .ok (.aload_n 1, 1) := by decide +kernel
theorem dX3_passMinuteOf_24 : decode cX3_passMinuteOf 24 = .ok (.iload_n 3, 1) := by decide +kernel
theorem dX3_passMinuteOf_25 : decode cX3_passMinuteOf 25 = .ok (.iload 4, 2) := by decide +kernel
theorem dX3_passMinuteOf_27 : decode cX3_passMinuteOf 27 = .ok (.invokevirtual 109, 3) := by decide +kernel
theorem dX3_passMinuteOf_30 : decode cX3_passMinuteOf 30 = .ok (.aload_n 1, 1) := by decide +kernel
theorem dX3_passMinuteOf_31 : decode cX3_passMinuteOf 31 = .ok (.aload_n 0, 1) := by decide +kernel
theorem dX3_passMinuteOf_32 : decode cX3_passMinuteOf 32 = .ok (.getfield 35, 3) := by decide +kernel
theorem dX3_passMinuteOf_35 : decode cX3_passMinuteOf 35 = .ok (.invokevirtual 113, 3) := by decide +kernel
theorem dX3_passMinuteOf_38 : decode cX3_passMinuteOf 38 = .ok (.iload 4, 2) := by decide +kernel
theorem dX3_passMinuteOf_40 : decode cX3_passMinuteOf 40 = .ok (.ifCond .ne 8, 3) := by decide +kernel
theorem dX3_passMinuteOf_43 : decode cX3_passMinuteOf 43 = .ok (.aload_n 1, 1) := by decide +kernel
theorem dX3_passMinuteOf_44 : decode cX3_passMinuteOf 44 = .ok (.aload_n 2, 1) := by decide +kernel
theorem dX3_passMinuteOf_45 : decode cX3_passMinuteOf 45 = .ok (.invokevirtual 117, 3) := by decide +kernel
theorem dX3_passMinuteOf_48 : decode cX3_passMinuteOf 48 = .ok (.aload_n 1, 1) := by decide +kernel
theorem dX3_passMinuteOf_49 : decode cX3_passMinuteOf 49 = .ok (.invokevirtual 120, 3) := by decide +kernel
theorem dX3_passMinuteOf_52 : decode cX3_passMinuteOf 52 = .ok (.iload 4, 2) := by decide +kernel
theorem dX3_passMinuteOf_54 : decode cX3_passMinuteOf 54 = .ok (.ifCond .eq 23, 3) := by decide +kernel
theorem dX3_passMinuteOf_57 : decode cX3_passMinuteOf 57 = .ok (.aload_n 2, 1) := by decide +kernel
theorem dX3_passMinuteOf_58 : decode cX3_passMinuteOf 58 = .ok (.iload_n 3, 1) := by decide +kernel
theorem dX3_passMinuteOf_59 : decode cX3_passMinuteOf 59 = .ok (.invokevirtual 106, 3) := by decide +kernel
theorem dX3_passMinuteOf_62 : decode cX3_passMinuteOf 62 = .ok (.ifCond .ne 15, 3) := by decide +kernel
theorem dX3_passMinuteOf_65 : decode cX3_passMinuteOf 65 = .ok (.aload_n 1, 1) := by decide +kernel
theorem dX3_passMinuteOf_66 : decode cX3_passMinuteOf 66 = .ok (.aload_n 2, 1) := by decide +kernel
theorem dX3_passMinuteOf_67 : decode cX3_passMinuteOf 67 = .ok (.aload_n 0, 1) := by decide +kernel
theorem dX3_passMinuteOf_68 : decode cX3_passMinuteOf 68 = .ok (.getfield 9, 3) := by decide +kernel
theorem dX3_passMinuteOf_71 : decode cX3_passMinuteOf 71 = .ok (.bipush 6, 2) := by decide +kernel
theorem dX3_passMinuteOf_73 : decode cX3_passMinuteOf 73 = .ok (.iaload, 1) := by decide +kernel
theorem dX3_passMinuteOf_74 : decode cX3_passMinuteOf 74 = .ok (.invokevirtual 123, 3) := by decide +kernel
theorem dX3_passMinuteOf_77 : decode cX3_passMinuteOf 77 = .ok (.aload_n 0, 1) := by decide +kernel
theorem dX3_passMinuteOf_78 : decode cX3_passMinuteOf 78 = .ok (.aload_n 1, 1) := by decide +kernel
theorem dX3_passMinuteOf_79 : decode cX3_passMinuteOf 79 = .ok (.iload 4, 2) := by decide +kernel
theorem dX3_passMinuteOf_81 : decode cX3_passMinuteOf 81 = .ok (.invokevirtual 127, 3) := by decide +kernel
theorem dX3_passMinuteOf_84 : decode cX3_passMinuteOf 84 = .ok (.istore 5, 2) := by decide +kernel
theorem dX3_passMinuteOf_86 : decode cX3_passMinuteOf 86 = .ok (.iload 5, 2) := by decide +kernel
theorem dX3_passMinuteOf_88 : decode cX3_passMinuteOf 88 = .ok (.ifCond .eq 14, 3) := by decide +kernel
theorem dX3_passMinuteOf_91 : decode cX3_passMinuteOf 91 = .ok (.iload 4, 2) := by decide +kernel
theorem dX3_passMinuteOf_93 : decode cX3_passMinuteOf 93 = .ok (.ifCond .eq 9, 3) := by decide +kernel
theorem dX3_passMinuteOf_96 : decode cX3_passMinuteOf 96 = .ok (.aload_n 0, 1) := by decide +kernel
theorem dX3_passMinuteOf_97 : decode cX3_passMinuteOf 97 = .ok (.aload_n 1, 1) := by decide +kernel
theorem dX3_passMinuteOf_98 : decode cX3_passMinuteOf 98 = .ok (.iload_n 3, 1) := by decide +kernel
theorem dX3_passMinuteOf_99 : decode cX3_passMinuteOf 99 = .ok (.invokevirtual 131, 3) := by decide +kernel
theorem dX3_passMinuteOf_102 : decode cX3_passMinuteOf 102 = .ok (.aload_n 1, 1) := by decide +kernel
theorem dX3_passMinuteOf_103 : decode cX3_passMinuteOf 103 = .ok (.dup, 1) := by decide +kernel
theorem dX3_passMinuteOf_104 : decode cX3_passMinuteOf 104 = .ok (.getfield 134, 3) := by decide +kernel
theorem dX3_passMinuteOf_107 : decode cX3_passMinuteOf 107 = .ok (.aload_n 1, 1) := by decide +kernel
theorem dX3_passMinuteOf_108 : decode cX3_passMinuteOf 108 = .ok (.getfield 67, 3) := by decide +kernel
theorem dX3_passMinuteOf_111 : decode cX3_passMinuteOf 111 = .ok (.i2l, 1) := by decide +kernel
theorem dX3_passMinuteOf_112 : decode cX3_passMinuteOf 112 = .ok (.ladd, 1) := by decide +kernel
theorem dX3_passMinuteOf_113 : decode cX3_passMinuteOf 113 = .ok (.putfield 134, 3) := by decide +kernel
theorem dX3_passMinuteOf_116 : decode cX3_passMinuteOf 116 = .ok (.iload 5, 2) := by decide +kernel
theorem dX3_passMinuteOf_118 : decode cX3_passMinuteOf 118 = .ok (.ifCond .eq 12, 3) := by decide +kernel
theorem dX3_passMinuteOf_121 : decode cX3_passMinuteOf 121 = .ok (.iload 4, 2) := by decide +kernel
theorem dX3_passMinuteOf_123 : decode cX3_passMinuteOf 123 = .ok (.ifCond .eq 7, 3) := by decide +kernel
theorem dX3_passMinuteOf_126 : decode cX3_passMinuteOf 126 = .ok (.iconst 1, 1) := by decide +kernel
theorem dX3_passMinuteOf_127 : decode cX3_passMinuteOf 127 = .ok (.goto 4, 3) := by decide +kernel
theorem dX3_passMinuteOf_130 : decode cX3_passMinuteOf 130 = .ok (.iconst 0, 1) := by decide +kernel
theorem dX3_passMinuteOf_131 : decode cX3_passMinuteOf 131 = .ok (.ireturn, 1) := by decide +kernel
theorem dX3_settleHours_0 : decode cX3_settleHours 0 = .ok (.aload_n 1, 1) := by decide +kernel
theorem dX3_settleHours_1 : decode cX3_settleHours 1 = .ok (.iload_n 2, 1) := by decide +kernel
theorem dX3_settleHours_2 : decode cX3_settleHours 2 = .ok (.iconst 1, 1) := by decide +kernel
theorem dX3_settleHours_3 : decode cX3_settleHours 3 = .ok (.isub, 1) := by decide +kernel
theorem dX3_settleHours_4 : decode cX3_settleHours 4 = .ok (.invokevirtual 81, 3) := by decide +kernel
theorem dX3_settleHours_7 : decode cX3_settleHours 7 = .ok (.iconst 1, 1) := by decide +kernel
theorem dX3_settleHours_8 : decode cX3_settleHours 8 = .ok (.if_icmp .ne 26, 3) := by decide +kernel
theorem dX3_settleHours_11 : decode cX3_settleHours 11 = .ok (.aload_n 1, 1) := by decide +kernel
theorem dX3_settleHours_12 : decode cX3_settleHours 12 = .ok (.iload_n 2, 1) := by decide +kernel
theorem dX3_settleHours_13 : decode cX3_settleHours 13 = .ok (.iconst 1, 1) := by decide +kernel
theorem dX3_settleHours_14 : decode cX3_settleHours 14 = .ok (.isub, 1) := by decide +kernel
theorem dX3_settleHours_15 : decode cX3_settleHours 15 = .ok (.iconst 2, 1) := by decide +kernel
theorem dX3_settleHours_16 : decode cX3_settleHours 16 = .ok (.invokevirtual 85, 3) := by decide +kernel
theorem dX3_settleHours_19 : decode cX3_settleHours 19 = .ok (.aload_n 0, 1) := by decide +kernel
theorem dX3_settleHours_20 : decode cX3_settleHours 20 = .ok (.dup, 1) := by decide +kernel
theorem dX3_settleHours_21 : decode cX3_settleHours 21 = .ok (.getfield 45, 3) := by decide +kernel
theorem dX3_settleHours_24 : decode cX3_settleHours 24 = .ok (.aload_n 0, 1) := by decide +kernel
theorem dX3_settleHours_25 : decode cX3_settleHours 25 = .ok (.getfield 9, 3) := by decide +kernel
theorem dX3_settleHours_28 : decode cX3_settleHours 28 = .ok (.iconst 2, 1) := by decide +kernel
theorem dX3_settleHours_29 : decode cX3_settleHours 29 = .ok (.iaload, 1) := by decide +kernel
theorem dX3_settleHours_30 : decode cX3_settleHours 30 = .ok (.iadd, 1) := by decide +kernel
theorem dX3_settleHours_31 : decode cX3_settleHours 31 = .ok (.putfield 45, 3) := by decide +kernel
theorem dX3_settleHours_34 : decode cX3_settleHours 34 = .ok (.iload_n 3, 1) := by decide +kernel
theorem dX3_settleHours_35 : decode cX3_settleHours 35 = .ok (.ifCond .eq 18, 3) := by decide +kernel
theorem dX3_settleHours_38 : decode cX3_settleHours 38 = .ok (.aload_n 0, 1) := by decide +kernel
theorem dX3_settleHours_39 : decode cX3_settleHours 39 = .ok (.dup, 1) := by decide +kernel
theorem dX3_settleHours_40 : decode cX3_settleHours 40 = .ok (.getfield 39, 3) := by decide +kernel
theorem dX3_settleHours_43 : decode cX3_settleHours 43 = .ok (.aload_n 0, 1) := by decide +kernel
theorem dX3_settleHours_44 : decode cX3_settleHours 44 = .ok (.getfield 9, 3) := by decide +kernel
theorem dX3_settleHours_47 : decode cX3_settleHours 47 = .ok (.iconst 0, 1) := by decide +kernel
theorem dX3_settleHours_48 : decode cX3_settleHours 48 = .ok (.iaload, 1) := by decide +kernel
theorem dX3_settleHours_49 : decode cX3_settleHours 49 = .ok (.iadd, 1) := by decide +kernel
theorem dX3_settleHours_50 : decode cX3_settleHours 50 = .ok (.putfield 39, 3) := by decide +kernel
theorem dX3_settleHours_53 : decode cX3_settleHours 53 = .ok (.return_, 1) := by decide +kernel
theorem dX3_cleanUp_0 : decode cX3_cleanUp 0 = .ok (.iload_n 2, 1) := by decide +kernel
theorem dX3_cleanUp_1 : decode cX3_cleanUp 1 = .ok (.ifCond .eq 25, 3) := by decide +kernel
theorem dX3_cleanUp_4 : decode cX3_cleanUp 4 = .ok (.aload_n 1, 1) := by decide +kernel
theorem dX3_cleanUp_5 : decode cX3_cleanUp 5 = .ok (.getfield 67, 3) := by decide +kernel
theorem dX3_cleanUp_8 : decode cX3_cleanUp 8 = .ok (.aload_n 0, 1) := by decide +kernel
theorem dX3_cleanUp_9 : decode cX3_cleanUp 9 = .ok (.getfield 9, 3) := by decide +kernel
theorem dX3_cleanUp_12 : decode cX3_cleanUp 12 = .ok (.bipush 6, 2) := by decide +kernel
theorem dX3_cleanUp_14 : decode cX3_cleanUp 14 = .ok (.iaload, 1) := by decide +kernel
theorem dX3_cleanUp_15 : decode cX3_cleanUp 15 = .ok (.if_icmp .le 7, 3) := by decide +kernel
theorem dX3_cleanUp_18 : decode cX3_cleanUp 18 = .ok (.iconst 1, 1) := by decide +kernel
theorem dX3_cleanUp_19 : decode cX3_cleanUp 19 = .ok (.goto 32, 3) := by decide +kernel
theorem dX3_cleanUp_22 : decode cX3_cleanUp 22 = .ok (.iconst 0, 1) := by decide +kernel
theorem dX3_cleanUp_23 : decode cX3_cleanUp 23 = .ok (.goto 28, 3) := by decide +kernel
theorem dX3_cleanUp_26 : decode cX3_cleanUp 26 = .ok (.aload_n 1, 1) := by decide +kernel
theorem dX3_cleanUp_27 : decode cX3_cleanUp 27 = .ok (.getfield 138, 3) := by decide +kernel
theorem dX3_cleanUp_30 : decode cX3_cleanUp 30 = .ok (.ifCond .ne 16, 3) := by decide +kernel
theorem dX3_cleanUp_33 : decode cX3_cleanUp 33 = .ok (.aload_n 1, 1) := by decide +kernel
theorem dX3_cleanUp_34 : decode cX3_cleanUp 34 = .ok (.getfield 142, 3) := by decide +kernel
theorem dX3_cleanUp_37 : decode cX3_cleanUp 37 = .ok (.aload_n 0, 1) := by decide +kernel
theorem dX3_cleanUp_38 : decode cX3_cleanUp 38 = .ok (.getfield 9, 3) := by decide +kernel
theorem dX3_cleanUp_41 : decode cX3_cleanUp 41 = .ok (.iconst 3, 1) := by decide +kernel
theorem dX3_cleanUp_42 : decode cX3_cleanUp 42 = .ok (.iaload, 1) := by decide +kernel
theorem dX3_cleanUp_43 : decode cX3_cleanUp 43 = .ok (.if_icmp .ge 7, 3) := by decide +kernel
theorem dX3_cleanUp_46 : decode cX3_cleanUp 46 = .ok (.iconst 1, 1) := by decide +kernel
theorem dX3_cleanUp_47 : decode cX3_cleanUp 47 = .ok (.goto 4, 3) := by decide +kernel
theorem dX3_cleanUp_50 : decode cX3_cleanUp 50 = .ok (.iconst 0, 1) := by decide +kernel
theorem dX3_cleanUp_51 : decode cX3_cleanUp 51 = .ok (.istore_n 3, 1) := by decide +kernel
theorem dX3_cleanUp_52 : decode cX3_cleanUp 52 = .ok (.iload_n 3, 1) := by decide +kernel
theorem dX3_cleanUp_53 : decode cX3_cleanUp 53 = .ok (.ifCond .eq 14, 3) := by decide +kernel
theorem dX3_cleanUp_56 : decode cX3_cleanUp 56 = .ok (.aload_n 1, 1) := by decide +kernel
theorem dX3_cleanUp_57 : decode cX3_cleanUp 57 = .ok (.getfield 145, 3) := by decide +kernel
theorem dX3_cleanUp_60 : decode cX3_cleanUp 60 = .ok (.ifCond .le 7, 3) := by decide +kernel
theorem dX3_cleanUp_63 : decode cX3_cleanUp 63 = .ok (.iconst 1, 1) := by decide +kernel
theorem dX3_cleanUp_64 : decode cX3_cleanUp 64 = .ok (.goto 4, 3) := by decide +kernel
theorem dX3_cleanUp_67 : decode cX3_cleanUp 67 = .ok (.iconst 0, 1) := by decide +kernel
theorem dX3_cleanUp_68 : decode cX3_cleanUp 68 = .ok (.istore 4, 2) := by decide +kernel
theorem dX3_cleanUp_70 : decode cX3_cleanUp 70 = .ok (.iload 4, 2) := by decide +kernel
theorem dX3_cleanUp_72 : decode cX3_cleanUp 72 = .ok (.ifCond .eq 20, 3) := by decide +kernel
theorem dX3_cleanUp_75 : decode cX3_cleanUp 75 = .ok (.aload_n 1, 1) := by decide +kernel
theorem dX3_cleanUp_76 : decode cX3_cleanUp 76 = .ok (.aload_n 0, 1) := by decide +kernel
theorem dX3_cleanUp_77 : decode cX3_cleanUp 77 = .ok (.getfield 9, 3) := by decide +kernel
theorem dX3_cleanUp_80 : decode cX3_cleanUp 80 = .ok (.iconst 5, 1) := by decide +kernel
theorem dX3_cleanUp_81 : decode cX3_cleanUp 81 = .ok (.iaload, 1) := by decide +kernel
theorem dX3_cleanUp_82 : decode cX3_cleanUp 82 = .ok (.aload_n 1, 1) := by decide +kernel
theorem dX3_cleanUp_83 : decode cX3_cleanUp 83 = .ok (.getfield 145, 3) := by decide +kernel
theorem dX3_cleanUp_86 : decode cX3_cleanUp 86 = .ok (.invokestatic 148, 3) := by decide +kernel
theorem dX3_cleanUp_89 : decode cX3_cleanUp 89 = .ok (.invokevirtual 154, 3) := by decide +kernel
theorem dX3_cleanUp_92 : decode cX3_cleanUp 92 = .ok (.aload_n 1, 1) := by decide +kernel
theorem dX3_cleanUp_93 : decode cX3_cleanUp 93 = .ok (.iload 4, 2) := by decide +kernel
theorem dX3_cleanUp_95 : decode cX3_cleanUp 95 = .ok (.ifCond .eq 31, 3) := by decide +kernel
theorem dX3_cleanUp_98 : decode cX3_cleanUp 98 = .ok (.iload_n 2, 1) := by decide +kernel
theorem dX3_cleanUp_99 : decode cX3_cleanUp 99 = .ok (.ifCond .ne 27, 3) := by decide +kernel
theorem dX3_cleanUp_102 : decode cX3_cleanUp 102 = .ok (.aload_n 1, 1) := by decide +kernel
theorem dX3_cleanUp_103 : decode cX3_cleanUp 103 = .ok (.getfield 142, 3) := by decide +kernel
theorem dX3_cleanUp_106 : decode cX3_cleanUp 106 = .ok (.aload_n 0, 1) := by decide +kernel
theorem dX3_cleanUp_107 : decode cX3_cleanUp 107 = .ok (.getfield 9, 3) := by decide +kernel
theorem dX3_cleanUp_110 : decode cX3_cleanUp 110 = .ok (.iconst 4, 1) := by decide +kernel
theorem dX3_cleanUp_111 : decode cX3_cleanUp 111 = .ok (.iaload, 1) := by decide +kernel
theorem dX3_cleanUp_112 : decode cX3_cleanUp 112 = .ok (.if_icmp .ge 14, 3) := by decide +kernel
theorem dX3_cleanUp_115 : decode cX3_cleanUp 115 = .ok (.aload_n 1, 1) := by decide +kernel
theorem dX3_cleanUp_116 : decode cX3_cleanUp 116 = .ok (.getfield 145, 3) := by decide +kernel
theorem dX3_cleanUp_119 : decode cX3_cleanUp 119 = .ok (.ifCond .le 7, 3) := by decide +kernel
theorem dX3_cleanUp_122 : decode cX3_cleanUp 122 = .ok (.iconst 1, 1) := by decide +kernel
theorem dX3_cleanUp_123 : decode cX3_cleanUp 123 = .ok (.goto 4, 3) := by decide +kernel
theorem dX3_cleanUp_126 : decode cX3_cleanUp 126 = .ok (.iconst 0, 1) := by decide +kernel
theorem dX3_cleanUp_127 : decode cX3_cleanUp 127 = .ok (.putfield 138, 3) := by decide +kernel
theorem dX3_cleanUp_130 : decode cX3_cleanUp 130 = .ok (.iload 4, 2) := by decide +kernel
theorem dX3_cleanUp_132 : decode cX3_cleanUp 132 = .ok (.ireturn, 1) := by decide +kernel
theorem dX3_chargeOverrun_0 : decode cX3_chargeOverrun 0 = .ok (.aload_n 1, 1) := by decide +kernel
theorem dX3_chargeOverrun_1 : decode cX3_chargeOverrun 1 = .ok (.dup, 1) := by decide +kernel
theorem dX3_chargeOverrun_2 : decode cX3_chargeOverrun 2 = .ok (.getfield 157, 3) := by decide +kernel
theorem dX3_chargeOverrun_5 : decode cX3_chargeOverrun 5 = .ok (.iconst 1, 1) := by decide +kernel
theorem dX3_chargeOverrun_6 : decode cX3_chargeOverrun 6 = .ok (.iadd, 1) := by decide +kernel
theorem dX3_chargeOverrun_7 : decode cX3_chargeOverrun 7 = .ok (.putfield 157, 3) := by decide +kernel
theorem dX3_chargeOverrun_10 : decode cX3_chargeOverrun 10 = .ok (.aload_n 1, 1) := by decide +kernel
theorem dX3_chargeOverrun_11 : decode cX3_chargeOverrun 11 = .ok (.iload_n 2, 1) := by decide +kernel
theorem dX3_chargeOverrun_12 : decode cX3_chargeOverrun 12 = .ok (.iconst 3, 1) := by decide +kernel
theorem dX3_chargeOverrun_13 : decode cX3_chargeOverrun 13 = .ok (.invokevirtual 85, 3) := by decide +kernel
theorem dX3_chargeOverrun_16 : decode cX3_chargeOverrun 16 = .ok (.aload_n 0, 1) := by decide +kernel
theorem dX3_chargeOverrun_17 : decode cX3_chargeOverrun 17 = .ok (.getfield 45, 3) := by decide +kernel
theorem dX3_chargeOverrun_20 : decode cX3_chargeOverrun 20 = .ok (.ifCond .le 26, 3) := by decide +kernel
theorem dX3_chargeOverrun_23 : decode cX3_chargeOverrun 23 = .ok (.aload_n 0, 1) := by decide +kernel
theorem dX3_chargeOverrun_24 : decode cX3_chargeOverrun 24 = .ok (.dup, 1) := by decide +kernel
theorem dX3_chargeOverrun_25 : decode cX3_chargeOverrun 25 = .ok (.getfield 45, 3) := by decide +kernel
theorem dX3_chargeOverrun_28 : decode cX3_chargeOverrun 28 = .ok (.iconst 1, 1) := by decide +kernel
theorem dX3_chargeOverrun_29 : decode cX3_chargeOverrun 29 = .ok (.isub, 1) := by decide +kernel
theorem dX3_chargeOverrun_30 : decode cX3_chargeOverrun 30 = .ok (.putfield 45, 3) := by decide +kernel
theorem dX3_chargeOverrun_33 : decode cX3_chargeOverrun 33 = .ok (.aload_n 0, 1) := by decide +kernel
theorem dX3_chargeOverrun_34 : decode cX3_chargeOverrun 34 = .ok (.dup, 1) := by decide +kernel
theorem dX3_chargeOverrun_35 : decode cX3_chargeOverrun 35 = .ok (.getfield 48, 3) := by decide +kernel
theorem dX3_chargeOverrun_38 : decode cX3_chargeOverrun 38 = .ok (.iconst 1, 1) := by decide +kernel
theorem dX3_chargeOverrun_39 : decode cX3_chargeOverrun 39 = .ok (.iadd, 1) := by decide +kernel
theorem dX3_chargeOverrun_40 : decode cX3_chargeOverrun 40 = .ok (.putfield 48, 3) := by decide +kernel
theorem dX3_chargeOverrun_43 : decode cX3_chargeOverrun 43 = .ok (.goto 18, 3) := by decide +kernel
theorem dX3_chargeOverrun_46 : decode cX3_chargeOverrun 46 = .ok (.aload_n 0, 1) := by decide +kernel
theorem dX3_chargeOverrun_47 : decode cX3_chargeOverrun 47 = .ok (.dup, 1) := by decide +kernel
theorem dX3_chargeOverrun_48 : decode cX3_chargeOverrun 48 = .ok (.getfield 42, 3) := by decide +kernel
theorem dX3_chargeOverrun_51 : decode cX3_chargeOverrun 51 = .ok (.aload_n 0, 1) := by decide +kernel
theorem dX3_chargeOverrun_52 : decode cX3_chargeOverrun 52 = .ok (.getfield 9, 3) := by decide +kernel
theorem dX3_chargeOverrun_55 : decode cX3_chargeOverrun 55 = .ok (.iconst 1, 1) := by decide +kernel
theorem dX3_chargeOverrun_56 : decode cX3_chargeOverrun 56 = .ok (.iaload, 1) := by decide +kernel
theorem dX3_chargeOverrun_57 : decode cX3_chargeOverrun 57 = .ok (.iadd, 1) := by decide +kernel
theorem dX3_chargeOverrun_58 : decode cX3_chargeOverrun 58 = .ok (.putfield 42, 3) := by decide +kernel
theorem dX3_chargeOverrun_61 : decode cX3_chargeOverrun 61 = .ok (.return_, 1) := by decide +kernel
theorem dX4_init_0 : decode cX4_init 0 = .ok (.aload_n 0, 1) := by decide +kernel
theorem dX4_init_1 : decode cX4_init 1 = .ok (.invokespecial 1, 3) := by decide +kernel
theorem dX4_init_4 : decode cX4_init 4 = .ok (.aload_n 0, 1) := by decide +kernel
theorem dX4_init_5 : decode cX4_init 5 = .ok (.new 7, 3) := by decide +kernel
theorem dX4_init_8 : decode cX4_init 8 = .ok (.dup, 1) := by decide +kernel
theorem dX4_init_9 : decode cX4_init 9 = .ok (.invokespecial 9, 3) := by decide +kernel
theorem dX4_init_12 : decode cX4_init 12 = .ok (.putfield 10, 3) := by decide +kernel
theorem dX4_init_15 : decode cX4_init 15 = .ok (.aload_n 0, 1) := by decide +kernel
theorem dX4_init_16 : decode cX4_init 16 = .ok (.new 16, 3) := by decide +kernel
theorem dX4_init_19 : decode cX4_init 19 = .ok (.dup, 1) := by decide +kernel
theorem dX4_init_20 : decode cX4_init 20 = .ok (.invokespecial 18, 3) := by decide +kernel
theorem dX4_init_23 : decode cX4_init 23 = .ok (.putfield 19, 3) := by decide +kernel
theorem dX4_init_26 : decode cX4_init 26 = .ok (.aload_n 0, 1) := by decide +kernel
theorem dX4_init_27 : decode cX4_init 27 = .ok (.iconst 2, 1) := by decide +kernel
theorem dX4_init_28 : decode cX4_init 28 = .ok (.anewarray 7, 3) := by decide +kernel
theorem dX4_init_31 : decode cX4_init 31 = .ok (.putfield 23, 3) := by decide +kernel
theorem dX4_init_34 : decode cX4_init 34 = .ok (.aload_n 0, 1) := by decide +kernel
theorem dX4_init_35 : decode cX4_init 35 = .ok (.iconst 2, 1) := by decide +kernel
theorem dX4_init_36 : decode cX4_init 36 = .ok (.newarray .boolean, 2) := by decide +kernel
theorem dX4_init_38 : decode cX4_init 38 = .ok (.putfield 27, 3) := by decide +kernel
theorem dX4_init_41 : decode cX4_init 41 = .ok (.aload_n 0, 1) := by decide +kernel
theorem dX4_init_42 : decode cX4_init 42 = .ok (.new 31, 3) := by decide +kernel
theorem dX4_init_45 : decode cX4_init 45 = .ok (.dup, 1) := by decide +kernel
theorem dX4_init_46 : decode cX4_init 46 = .ok (.invokespecial 33, 3) := by decide +kernel
theorem dX4_init_49 : decode cX4_init 49 = .ok (.putfield 34, 3) := by decide +kernel
theorem dX4_init_52 : decode cX4_init 52 = .ok (.aload_n 0, 1) := by decide +kernel
theorem dX4_init_53 : decode cX4_init 53 = .ok (.new 7, 3) := by decide +kernel
theorem dX4_init_56 : decode cX4_init 56 = .ok (.dup, 1) := by decide +kernel
theorem dX4_init_57 : decode cX4_init 57 = .ok (.invokespecial 9, 3) := by decide +kernel
theorem dX4_init_60 : decode cX4_init 60 = .ok (.putfield 38, 3) := by decide +kernel
theorem dX4_init_63 : decode cX4_init 63 = .ok (.aload_n 0, 1) := by decide +kernel
theorem dX4_init_64 : decode cX4_init 64 = .ok (.new 7, 3) := by decide +kernel
theorem dX4_init_67 : decode cX4_init 67 = .ok (.dup, 1) := by decide +kernel
theorem dX4_init_68 : decode cX4_init 68 = .ok (.invokespecial 9, 3) := by decide +kernel
theorem dX4_init_71 : decode cX4_init 71 = .ok (.putfield 41, 3) := by decide +kernel
theorem dX4_init_74 : decode cX4_init 74 = .ok (.iconst 0, 1) := by decide +kernel
theorem dX4_init_75 : decode cX4_init 75 = .ok (.istore_n 1, 1) := by decide +kernel
theorem dX4_init_76 : decode cX4_init 76 = .ok (.iload_n 1, 1) := by decide +kernel
theorem dX4_init_77 : decode cX4_init 77 = .ok (.iconst 2, 1) := by decide +kernel
theorem dX4_init_78 : decode cX4_init 78 = .ok (.if_icmp .ge 22, 3) := by decide +kernel
theorem dX4_init_81 : decode cX4_init 81 = .ok (.aload_n 0, 1) := by decide +kernel
theorem dX4_init_82 : decode cX4_init 82 = .ok (.getfield 23, 3) := by decide +kernel
theorem dX4_init_85 : decode cX4_init 85 = .ok (.iload_n 1, 1) := by decide +kernel
theorem dX4_init_86 : decode cX4_init 86 = .ok (.new 7, 3) := by decide +kernel
theorem dX4_init_89 : decode cX4_init 89 = .ok (.dup, 1) := by decide +kernel
theorem dX4_init_90 : decode cX4_init 90 = .ok (.invokespecial 9, 3) := by decide +kernel
theorem dX4_init_93 : decode cX4_init 93 = .ok (.aastore, 1) := by decide +kernel
theorem dX4_init_94 : decode cX4_init 94 = .ok (.iinc 1 1, 3) := by decide +kernel
theorem dX4_init_97 : decode cX4_init 97 = .ok (.goto (-21), 3) := by decide +kernel
theorem dX4_init_100 : decode cX4_init 100 = .ok (.return_, 1) := by decide +kernel
theorem dX4_set_0 : decode cX4_set 0 = .ok (.aload_n 0, 1) := by decide +kernel
theorem dX4_set_1 : decode cX4_set 1 = .ok (.getfield 19, 3) := by decide +kernel
theorem dX4_set_4 : decode cX4_set 4 = .ok (.aload_n 0, 1) := by decide +kernel
theorem dX4_set_5 : decode cX4_set 5 = .ok (.getfield 10, 3) := by decide +kernel
theorem dX4_set_8 : decode cX4_set 8 = .ok (.invokevirtual 44, 3) := by decide +kernel
theorem dX4_set_11 : decode cX4_set 11 = .ok (.aload_n 0, 1) := by decide +kernel
theorem dX4_set_12 : decode cX4_set 12 = .ok (.aload_n 0, 1) := by decide +kernel
theorem dX4_set_13 : decode cX4_set 13 = .ok (.getfield 10, 3) := by decide +kernel
theorem dX4_set_16 : decode cX4_set 16 = .ok (.iload_n 1, 1) := by decide +kernel
theorem dX4_set_17 : decode cX4_set 17 = .ok (.iload_n 2, 1) := by decide +kernel
theorem dX4_set_18 : decode cX4_set 18 = .ok (.invokevirtual 48, 3) := by decide +kernel
theorem dX4_set_21 : decode cX4_set 21 = .ok (.invokevirtual 52, 3) := by decide +kernel
theorem dX4_set_24 : decode cX4_set 24 = .ok (.ireturn, 1) := by decide +kernel
theorem dX4_stream_0 : decode cX4_stream 0 = .ok (.aload_n 0, 1) := by decide +kernel
theorem dX4_stream_1 : decode cX4_stream 1 = .ok (.getfield 19, 3) := by decide +kernel
theorem dX4_stream_4 : decode cX4_stream 4 = .ok (.aload_n 0, 1) := by decide +kernel
theorem dX4_stream_5 : decode cX4_stream 5 = .ok (.getfield 10, 3) := by decide +kernel
theorem dX4_stream_8 : decode cX4_stream 8 = .ok (.invokevirtual 44, 3) := by decide +kernel
theorem dX4_stream_11 : decode cX4_stream 11 = .ok (.aload_n 0, 1) := by decide +kernel
theorem dX4_stream_12 : decode cX4_stream 12 = .ok (.aload_n 0, 1) := by decide +kernel
theorem dX4_stream_13 : decode cX4_stream 13 = .ok (.getfield 10, 3) := by decide +kernel
theorem dX4_stream_16 : decode cX4_stream 16 = .ok (.iload_n 1, 1) := by decide +kernel
theorem dX4_stream_17 : decode cX4_stream 17 = .ok (.iload_n 2, 1) := by decide +kernel
theorem dX4_stream_18 : decode cX4_stream 18 = .ok (.iload_n 3, 1) := by decide +kernel
theorem dX4_stream_19 : decode cX4_stream 19 = .ok (.invokevirtual 56, 3) := by decide +kernel
theorem dX4_stream_22 : decode cX4_stream 22 = .ok (.invokevirtual 52, 3) := by decide +kernel
theorem dX4_stream_25 : decode cX4_stream 25 = .ok (.ireturn, 1) := by decide +kernel
theorem dX4_write_0 : decode cX4_write 0 = .ok (.aload_n 0, 1) := by decide +kernel
theorem dX4_write_1 : decode cX4_write 1 = .ok (.getfield 19, 3) := by decide +kernel
theorem dX4_write_4 : decode cX4_write 4 = .ok (.aload_n 0, 1) := by decide +kernel
theorem dX4_write_5 : decode cX4_write 5 = .ok (.getfield 10, 3) := by decide +kernel
theorem dX4_write_8 : decode cX4_write 8 = .ok (.invokevirtual 44, 3) := by decide +kernel
theorem dX4_write_11 : decode cX4_write 11 = .ok (.aload_n 0, 1) := by decide +kernel
theorem dX4_write_12 : decode cX4_write 12 = .ok (.aload_n 0, 1) := by decide +kernel
theorem dX4_write_13 : decode cX4_write 13 = .ok (.getfield 10, 3) := by decide +kernel
theorem dX4_write_16 : decode cX4_write 16 = .ok (.iload_n 1, 1) := by decide +kernel
theorem dX4_write_17 : decode cX4_write 17 = .ok (.iload_n 2, 1) := by decide +kernel
theorem dX4_write_18 : decode cX4_write 18 = .ok (.invokevirtual 60, 3) := by decide +kernel
theorem dX4_write_21 : decode cX4_write 21 = .ok (.invokevirtual 52, 3) := by decide +kernel
theorem dX4_write_24 : decode cX4_write 24 = .ok (.ireturn, 1) := by decide +kernel
theorem dX4_sell_0 : decode cX4_sell 0 = .ok (.aload_n 0, 1) := by decide +kernel
theorem dX4_sell_1 : decode cX4_sell 1 = .ok (.getfield 19, 3) := by decide +kernel
theorem dX4_sell_4 : decode cX4_sell 4 = .ok (.aload_n 0, 1) := by decide +kernel
theorem dX4_sell_5 : decode cX4_sell 5 = .ok (.getfield 10, 3) := by decide +kernel
theorem dX4_sell_8 : decode cX4_sell 8 = .ok (.invokevirtual 44, 3) := by decide +kernel
theorem dX4_sell_11 : decode cX4_sell 11 = .ok (.aload_n 0, 1) := by decide +kernel
theorem dX4_sell_12 : decode cX4_sell 12 = .ok (.aload_n 0, 1) := by decide +kernel
theorem dX4_sell_13 : decode cX4_sell 13 = .ok (.getfield 10, 3) := by decide +kernel
theorem dX4_sell_16 : decode cX4_sell 16 = .ok (.iload_n 1, 1) := by decide +kernel
theorem dX4_sell_17 : decode cX4_sell 17 = .ok (.iload_n 2, 1) := by decide +kernel
theorem dX4_sell_18 : decode cX4_sell 18 = .ok (.invokevirtual 63, 3) := by decide +kernel
theorem dX4_sell_21 : decode cX4_sell 21 = .ok (.invokevirtual 52, 3) := by decide +kernel
theorem dX4_sell_24 : decode cX4_sell 24 = .ok (.ireturn, 1) := by decide +kernel
theorem dX4_giveBack_0 : decode cX4_giveBack 0 = .ok (.aload_n 0, 1) := by decide +kernel
theorem dX4_giveBack_1 : decode cX4_giveBack 1 = .ok (.getfield 19, 3) := by decide +kernel
theorem dX4_giveBack_4 : decode cX4_giveBack 4 = .ok (.aload_n 0, 1) := by decide +kernel
theorem dX4_giveBack_5 : decode cX4_giveBack 5 = .ok (.getfield 10, 3) := by decide +kernel
theorem dX4_giveBack_8 : decode cX4_giveBack 8 = .ok (.invokevirtual 44, 3) := by decide +kernel
theorem dX4_giveBack_11 : decode cX4_giveBack 11 = .ok (.aload_n 0, 1) := by decide +kernel
theorem dX4_giveBack_12 : decode cX4_giveBack 12 = .ok (.aload_n 0, 1) := by decide +kernel
theorem dX4_giveBack_13 : decode cX4_giveBack 13 = .ok (.getfield 10, 3) := by decide +kernel
theorem dX4_giveBack_16 : decode cX4_giveBack 16 = .ok (.iload_n 1, 1) := by decide +kernel
theorem dX4_giveBack_17 : decode cX4_giveBack 17 = .ok (.iload_n 2, 1) := by decide +kernel
theorem dX4_giveBack_18 : decode cX4_giveBack 18 = .ok (.invokevirtual 66, 3) := by decide +kernel
theorem dX4_giveBack_21 : decode cX4_giveBack 21 = .ok (.invokevirtual 52, 3) := by decide +kernel
theorem dX4_giveBack_24 : decode cX4_giveBack 24 = .ok (.ireturn, 1) := by decide +kernel
theorem dX4_pass_0 : decode cX4_pass 0 = .ok (.aload_n 0, 1) := by decide +kernel
theorem dX4_pass_1 : decode cX4_pass 1 = .ok (.getfield 19, 3) := by decide +kernel
theorem dX4_pass_4 : decode cX4_pass 4 = .ok (.aload_n 0, 1) := by decide +kernel
theorem dX4_pass_5 : decode cX4_pass 5 = .ok (.getfield 10, 3) := by decide +kernel
theorem dX4_pass_8 : decode cX4_pass 8 = .ok (.invokevirtual 44, 3) := by decide +kernel
theorem dX4_pass_11 : decode cX4_pass 11 = .ok (.aload_n 0, 1) := by decide +kernel
theorem dX4_pass_12 : decode cX4_pass 12 = .ok (.aload_n 0, 1) := by decide +kernel
theorem dX4_pass_13 : decode cX4_pass 13 = .ok (.getfield 10, 3) := by decide +kernel
theorem dX4_pass_16 : decode cX4_pass 16 = .ok (.iload_n 1, 1) := by decide +kernel
theorem dX4_pass_17 : decode cX4_pass 17 = .ok (.invokevirtual 69, 3) := by decide +kernel
theorem dX4_pass_20 : decode cX4_pass 20 = .ok (.invokevirtual 52, 3) := by decide +kernel
theorem dX4_pass_23 : decode cX4_pass 23 = .ok (.ireturn, 1) := by decide +kernel
theorem dX4_ofDrive_0 : decode cX4_ofDrive 0 = .ok (.iload_n 1, 1) := by decide +kernel
theorem dX4_ofDrive_1 : decode cX4_ofDrive 1 = .ok (.invokestatic 72, 3) := by decide +kernel
theorem dX4_ofDrive_4 : decode cX4_ofDrive 4 = .ok (.ifCond .ne 5, 3) := by decide +kernel
theorem dX4_ofDrive_7 : decode cX4_ofDrive 7 = .ok (.iconst (-1), 1) := by decide +kernel
theorem dX4_ofDrive_8 : decode cX4_ofDrive 8 = .ok (.ireturn, 1) := by decide +kernel
theorem dX4_ofDrive_9 : decode cX4_ofDrive 9 = .ok (.aload_n 0, 1) := by decide +kernel
theorem dX4_ofDrive_10 : decode cX4_ofDrive 10 = .ok (.getfield 10, 3) := by decide +kernel
theorem dX4_ofDrive_13 : decode cX4_ofDrive 13 = .ok (.getfield 76, 3) := by decide +kernel
theorem dX4_ofDrive_16 : decode cX4_ofDrive 16 = .ok (.iload_n 1, 1) := by decide +kernel
theorem dX4_ofDrive_17 : decode cX4_ofDrive 17 = .ok (.aaload, 1) := by decide +kernel
theorem dX4_ofDrive_18 : decode cX4_ofDrive 18 = .ok (.astore_n 3, 1) := by decide +kernel
theorem dX4_ofDrive_19 : decode cX4_ofDrive 19 = .ok (.iload_n 2, 1) := by decide +kernel
theorem dX4_ofDrive_20 : decode cX4_ofDrive 20 = .ok (.tableswitch 167 0 13 #[72, 77, 82, 87, 92, 112, 125, 130, 135, 140, 145, 151, 157, 162], 72) := by decide +kernel
theorem dX4_ofDrive_92 : decode cX4_ofDrive 92 = .ok (.aload_n 3, 1) := by decide +kernel
theorem dX4_ofDrive_93 : decode cX4_ofDrive 93 = .ok (.getfield 80, 3) := by decide +kernel
theorem dX4_ofDrive_96 : decode cX4_ofDrive 96 = .ok (.ireturn, 1) := by decide +kernel
theorem dX4_ofDrive_97 : decode cX4_ofDrive 97 = .ok (.aload_n 3, 1) := by decide +kernel
theorem dX4_ofDrive_98 : decode cX4_ofDrive 98 = .ok (.getfield 86, 3) := by decide +kernel
theorem dX4_ofDrive_101 : decode cX4_ofDrive 101 = .ok (.ireturn, 1) := by decide +kernel
theorem dX4_ofDrive_102 : decode cX4_ofDrive 102 = .ok (.aload_n 3, 1) := by decide +kernel
theorem dX4_ofDrive_103 : decode cX4_ofDrive 103 = .ok (.getfield 89, 3) := by decide +kernel
theorem dX4_ofDrive_106 : decode cX4_ofDrive 106 = .ok (.ireturn, 1) := by decide +kernel
theorem dX4_ofDrive_107 : decode cX4_ofDrive 107 = .ok (.aload_n 3, 1) := by decide +kernel
theorem dX4_ofDrive_108 : decode cX4_ofDrive 108 = .ok (.getfield 92, 3) := by decide +kernel
theorem dX4_ofDrive_111 : decode cX4_ofDrive 111 = .ok (.ireturn, 1) := by decide +kernel
theorem dX4_ofDrive_112 : decode cX4_ofDrive 112 = .ok (.aload_n 3, 1) := by decide +kernel
theorem dX4_ofDrive_113 : decode cX4_ofDrive 113 = .ok (.aload_n 0, 1) := by decide +kernel
theorem dX4_ofDrive_114 : decode cX4_ofDrive 114 = .ok (.getfield 10, 3) := by decide +kernel
theorem dX4_ofDrive_117 : decode cX4_ofDrive 117 = .ok (.invokevirtual 95, 3) := by decide +kernel
theorem dX4_ofDrive_120 : decode cX4_ofDrive 120 = .ok (.invokevirtual 99, 3) := by decide +kernel
theorem dX4_ofDrive_123 : decode cX4_ofDrive 123 = .ok (.ifCond .eq 7, 3) := by decide +kernel
theorem dX4_ofDrive_126 : decode cX4_ofDrive 126 = .ok (.iconst 1, 1) := by decide +kernel
theorem dX4_ofDrive_127 : decode cX4_ofDrive 127 = .ok (.goto 4, 3) := by decide +kernel
theorem dX4_ofDrive_130 : decode cX4_ofDrive 130 = .ok (.iconst 0, 1) := by decide +kernel
theorem dX4_ofDrive_131 : decode cX4_ofDrive 131 = .ok (.ireturn, 1) := by decide +kernel
theorem dX4_ofDrive_132 : decode cX4_ofDrive 132 = .ok (.aload_n 3, 1) := by decide +kernel
theorem dX4_ofDrive_133 : decode cX4_ofDrive 133 = .ok (.getfield 102, 3) := by decide +kernel
theorem dX4_ofDrive_136 : decode cX4_ofDrive 136 = .ok (.ifCond .eq 7, 3) := by decide +kernel
theorem dX4_ofDrive_139 : decode cX4_ofDrive 139 = .ok (.iconst 1, 1) := by decide +kernel
theorem dX4_ofDrive_140 : decode cX4_ofDrive 140 = .ok (.goto 4, 3) := by decide +kernel
theorem dX4_ofDrive_143 : decode cX4_ofDrive 143 = .ok (.iconst 0, 1) := by decide +kernel
theorem dX4_ofDrive_144 : decode cX4_ofDrive 144 = .ok (.ireturn, 1) := by decide +kernel
theorem dX4_ofDrive_145 : decode cX4_ofDrive 145 = .ok (.aload_n 3, 1) := by decide +kernel
theorem dX4_ofDrive_146 : decode cX4_ofDrive 146 = .ok (.getfield 106, 3) := by decide +kernel
theorem dX4_ofDrive_149 : decode cX4_ofDrive 149 = .ok (.ireturn, 1) := by decide +kernel
theorem dX4_ofDrive_150 : decode cX4_ofDrive 150 = .ok (.aload_n 3, 1) := by decide +kernel
theorem dX4_ofDrive_151 : decode cX4_ofDrive 151 = .ok (.getfield 109, 3) := by decide +kernel
theorem dX4_ofDrive_154 : decode cX4_ofDrive 154 = .ok (.ireturn, 1) := by decide +kernel
theorem dX4_ofDrive_155 : decode cX4_ofDrive 155 = .ok (.aload_n 3, 1) := by decide +kernel
theorem dX4_ofDrive_156 : decode cX4_ofDrive 156 = .ok (.getfield 112, 3) := by decide +kernel
theorem dX4_ofDrive_159 : decode cX4_ofDrive 159 = .ok (.ireturn, 1) := by decide +kernel
theorem dX4_ofDrive_160 : decode cX4_ofDrive 160 = .ok (.aload_n 3, 1) := by decide +kernel
theorem dX4_ofDrive_161 : decode cX4_ofDrive 161 = .ok (.invokevirtual 115, 3) := by decide +kernel
theorem dX4_ofDrive_164 : decode cX4_ofDrive 164 = .ok (.ireturn, 1) := by decide +kernel
theorem dX4_ofDrive_165 : decode cX4_ofDrive 165 = .ok (.aload_n 3, 1) := by decide +kernel
theorem dX4_ofDrive_166 : decode cX4_ofDrive 166 = .ok (.iconst 2, 1) := by decide +kernel
theorem dX4_ofDrive_167 : decode cX4_ofDrive 167 = .ok (.invokevirtual 118, 3) := by decide +kernel
theorem dX4_ofDrive_170 : decode cX4_ofDrive 170 = .ok (.ireturn, 1) := by decide +kernel
theorem dX4_ofDrive_171 : decode cX4_ofDrive 171 = .ok (.aload_n 3, 1) := by decide +kernel
theorem dX4_ofDrive_172 : decode cX4_ofDrive 172 = .ok (.iconst 3, 1) := by decide +kernel
theorem dX4_ofDrive_173 : decode cX4_ofDrive 173 = .ok (.invokevirtual 118, 3) := by decide +kernel
theorem dX4_ofDrive_176 : decode cX4_ofDrive 176 = .ok (.ireturn, 1) := by decide +kernel
theorem dX4_ofDrive_177 : decode cX4_ofDrive 177 = .ok (.aload_n 3, 1) := by decide +kernel
theorem dX4_ofDrive_178 : decode cX4_ofDrive 178 = .ok (.getfield 121, 3) := by decide +kernel
theorem dX4_ofDrive_181 : decode cX4_ofDrive 181 = .ok (.ireturn, 1) := by decide +kernel
theorem dX4_ofDrive_182 : decode cX4_ofDrive 182 = .ok (.aload_n 3, 1) := by decide +kernel
theorem dX4_ofDrive_183 : decode cX4_ofDrive 183 = .ok (.getfield 124, 3) := by decide +kernel
theorem dX4_ofDrive_186 : decode cX4_ofDrive 186 = .ok (.ireturn, 1) := by decide +kernel
theorem dX4_ofDrive_187 : decode cX4_ofDrive 187 = .ok (.bipush (-2), 2) := by decide +kernel
theorem dX4_ofDrive_189 : decode cX4_ofDrive 189 = .ok (.ireturn, 1) := by decide +kernel
theorem dX4_hour_0 : decode cX4_hour 0 = .ok (.iload_n 1, 1) := by decide +kernel
theorem dX4_hour_1 : decode cX4_hour 1 = .ok (.invokestatic 72, 3) := by decide +kernel
theorem dX4_hour_4 : decode cX4_hour 4 = .ok (.ifCond .ne 5, 3) := by decide +kernel
theorem dX4_hour_7 : decode cX4_hour 7 = .ok (.iconst (-1), 1) := by decide +kernel
theorem dX4_hour_8 : decode cX4_hour 8 = .ok (.ireturn, 1) := by decide +kernel
theorem dX4_hour_9 : decode cX4_hour 9 = .ok (.iload_n 2, 1) := by decide +kernel
theorem dX4_hour_10 : decode cX4_hour 10 = .ok (.invokestatic 127, 3) := by decide +kernel
theorem dX4_hour_13 : decode cX4_hour 13 = .ok (.ifCond .eq 19, 3) := by decide +kernel
theorem dX4_hour_16 : decode cX4_hour 16 = .ok (.aload_n 0, 1) := by decide +kernel
theorem dX4_hour_17 : decode cX4_hour 17 = .ok (.getfield 10, 3) := by decide +kernel
theorem dX4_hour_20 : decode cX4_hour 20 = .ok (.getfield 76, 3) := by decide +kernel
theorem dX4_hour_23 : decode cX4_hour 23 = .ok (.iload_n 1, 1) := by decide +kernel
theorem dX4_hour_24 : decode cX4_hour 24 = .ok (.aaload, 1) := by decide +kernel
theorem dX4_hour_25 : decode cX4_hour 25 = .ok (.iload_n 2, 1) := by decide +kernel
theorem dX4_hour_26 : decode cX4_hour 26 = .ok (.invokevirtual 130, 3) := by decide +kernel
theorem dX4_hour_29 : decode cX4_hour 29 = .ok (.goto 5, 3) := by decide +kernel
theorem dX4_hour_32 : decode cX4_hour 32 = .ok (.bipush (-2), 2) := by decide +kernel
theorem dX4_hour_34 : decode cX4_hour 34 = .ok (.ireturn, 1) := by decide +kernel
theorem dX4_streak_0 : decode cX4_streak 0 = .ok (.iload_n 1, 1) := by decide +kernel
theorem dX4_streak_1 : decode cX4_streak 1 = .ok (.invokestatic 72, 3) := by decide +kernel
theorem dX4_streak_4 : decode cX4_streak 4 = .ok (.ifCond .eq 18, 3) := by decide +kernel
theorem dX4_streak_7 : decode cX4_streak 7 = .ok (.aload_n 0, 1) := by decide +kernel
theorem dX4_streak_8 : decode cX4_streak 8 = .ok (.getfield 10, 3) := by decide +kernel
theorem dX4_streak_11 : decode cX4_streak 11 = .ok (.getfield 76, 3) := by decide +kernel
theorem dX4_streak_14 : decode cX4_streak 14 = .ok (.iload_n 1, 1) := by decide +kernel
theorem dX4_streak_15 : decode cX4_streak 15 = .ok (.aaload, 1) := by decide +kernel
theorem dX4_streak_16 : decode cX4_streak 16 = .ok (.invokevirtual 133, 3) := by decide +kernel
theorem dX4_streak_19 : decode cX4_streak 19 = .ok (.goto 4, 3) := by decide +kernel
theorem dX4_streak_22 : decode cX4_streak 22 = .ok (.iconst (-1), 1) := by decide +kernel
theorem dX4_streak_23 : decode cX4_streak 23 = .ok (.ireturn, 1) := by decide +kernel
theorem dX4_share_0 : decode cX4_share 0 = .ok (.iload_n 1, 1) := by decide +kernel
theorem dX4_share_1 : decode cX4_share 1 = .ok (.invokestatic 72, 3) := by decide +kernel
theorem dX4_share_4 : decode cX4_share 4 = .ok (.ifCond .ne 5, 3) := by decide +kernel
theorem dX4_share_7 : decode cX4_share 7 = .ok (.iconst (-1), 1) := by decide +kernel
theorem dX4_share_8 : decode cX4_share 8 = .ok (.ireturn, 1) := by decide +kernel
theorem dX4_share_9 : decode cX4_share 9 = .ok (.aload_n 0, 1) := by decide +kernel
theorem dX4_share_10 : decode cX4_share 10 = .ok (.getfield 10, 3) := by decide +kernel
theorem dX4_share_13 : decode cX4_share 13 = .ok (.getfield 76, 3) := by decide +kernel
theorem dX4_share_16 : decode cX4_share 16 = .ok (.iload_n 1, 1) := by decide +kernel
theorem dX4_share_17 : decode cX4_share 17 = .ok (.aaload, 1) := by decide +kernel
theorem dX4_share_18 : decode cX4_share 18 = .ok (.iconst 2, 1) := by decide +kernel
theorem dX4_share_19 : decode cX4_share 19 = .ok (.invokevirtual 118, 3) := by decide +kernel
theorem dX4_share_22 : decode cX4_share 22 = .ok (.istore_n 2, 1) := by decide +kernel
theorem dX4_share_23 : decode cX4_share 23 = .ok (.iload_n 2, 1) := by decide +kernel
theorem dX4_share_24 : decode cX4_share 24 = .ok (.aload_n 0, 1) := by decide +kernel
theorem dX4_share_25 : decode cX4_share 25 = .ok (.getfield 10, 3) := by decide +kernel
theorem dX4_share_28 : decode cX4_share 28 = .ok (.getfield 76, 3) := by decide +kernel
theorem dX4_share_31 : decode cX4_share 31 = .ok (.iload_n 1, 1) := by decide +kernel
theorem dX4_share_32 : decode cX4_share 32 = .ok (.aaload, 1) := by decide +kernel
theorem dX4_share_33 : decode cX4_share 33 = .ok (.iconst 3, 1) := by decide +kernel
theorem dX4_share_34 : decode cX4_share 34 = .ok (.invokevirtual 118, 3) := by decide +kernel
theorem dX4_share_37 : decode cX4_share 37 = .ok (.iadd, 1) := by decide +kernel
theorem dX4_share_38 : decode cX4_share 38 = .ok (.istore_n 3, 1) := by decide +kernel
theorem dX4_share_39 : decode cX4_share 39 = .ok (.iload_n 3, 1) := by decide +kernel
