theorem dX0_init_0 : decode cX0_init 0 = .ok (.aload_n 0, 1) := by decide +kernel
theorem dX0_init_1 : decode cX0_init 1 = .ok (.invokespecial 3, 3) := by decide +kernel
theorem dX0_init_4 : decode cX0_init 4 = .ok (.aload_n 0, 1) := by decide +kernel
theorem dX0_init_5 : decode cX0_init 5 = .ok (.new 9, 3) := by decide +kernel
theorem dX0_init_8 : decode cX0_init 8 = .ok (.dup, 1) := by decide +kernel
theorem dX0_init_9 : decode cX0_init 9 = .ok (.invokespecial 11, 3) := by decide +kernel
theorem dX0_init_12 : decode cX0_init 12 = .ok (.putfield 12, 3) := by decide +kernel
theorem dX0_init_15 : decode cX0_init 15 = .ok (.return_, 1) := by decide +kernel
theorem dX0_minutesThatAre_0 : decode cX0_minutesThatAre 0 = .ok (.iconst 0, 1) := by decide +kernel
theorem dX0_minutesThatAre_1 : decode cX0_minutesThatAre 1 = .ok (.istore_n 2, 1) := by decide +kernel
theorem dX0_minutesThatAre_2 : decode cX0_minutesThatAre 2 = .ok (.iconst 0, 1) := by decide +kernel
theorem dX0_minutesThatAre_3 : decode cX0_minutesThatAre 3 = .ok (.istore_n 3, 1) := by decide +kernel
theorem dX0_minutesThatAre_4 : decode cX0_minutesThatAre 4 = .ok (.iload_n 3, 1) := by decide +kernel
theorem dX0_minutesThatAre_5 : decode cX0_minutesThatAre 5 = .ok (.aload_n 0, 1) := by decide +kernel
theorem dX0_minutesThatAre_6 : decode cX0_minutesThatAre 6 = .ok (.getfield 12, 3) := by decide +kernel
theorem dX0_minutesThatAre_9 : decode cX0_minutesThatAre 9 = .ok (.invokevirtual 18, 3) := by decide +kernel
theorem dX0_minutesThatAre_12 : decode cX0_minutesThatAre 12 = .ok (.if_icmp .ge 39, 3) := by decide +kernel
theorem dX0_minutesThatAre_15 : decode cX0_minutesThatAre 15 = .ok (.aload_n 0, 1) := by decide +kernel
theorem dX0_minutesThatAre_16 : decode cX0_minutesThatAre 16 = .ok (.getfield 12, 3) := by decide +kernel
theorem dX0_minutesThatAre_19 : decode cX0_minutesThatAre 19 = .ok (.iload_n 3, 1) := by decide +kernel
theorem dX0_minutesThatAre_20 : decode cX0_minutesThatAre 20 = .ok (.invokevirtual 22, 3) := by decide +kernel
theorem dX0_minutesThatAre_23 : decode cX0_minutesThatAre 23 = .ok (.checkcast 26, 3) := by decide +kernel
theorem dX0_minutesThatAre_26 : decode cX0_minutesThatAre 26 = .ok (.astore 4, 2) := by decide +kernel
theorem dX0_minutesThatAre_28 : decode cX0_minutesThatAre 28 = .ok (.aload 4, 2) := by decide +kernel
theorem dX0_minutesThatAre_30 : decode cX0_minutesThatAre 30 = .ok (.getfield 28, 3) := by decide +kernel
theorem dX0_minutesThatAre_33 : decode cX0_minutesThatAre 33 = .ok (.iload_n 1, 1) := by decide +kernel
theorem dX0_minutesThatAre_34 : decode cX0_minutesThatAre 34 = .ok (.if_icmp .ne 11, 3) := by decide +kernel
theorem dX0_minutesThatAre_37 : decode cX0_minutesThatAre 37 = .ok (.iload_n 2, 1) := by decide +kernel
theorem dX0_minutesThatAre_38 : decode cX0_minutesThatAre 38 = .ok (.aload 4, 2) := by decide +kernel
theorem dX0_minutesThatAre_40 : decode cX0_minutesThatAre 40 = .ok (.getfield 32, 3) := by decide +kernel
theorem dX0_minutesThatAre_43 : decode cX0_minutesThatAre 43 = .ok (.iadd, 1) := by decide +kernel
theorem dX0_minutesThatAre_44 : decode cX0_minutesThatAre 44 = .ok (.istore_n 2, 1) := by decide +kernel
theorem dX0_minutesThatAre_45 : decode cX0_minutesThatAre 45 = .ok (.iinc 3 1, 3) := by decide +kernel
theorem dX0_minutesThatAre_48 : decode cX0_minutesThatAre 48 = .ok (.goto (-44), 3) := by decide +kernel
theorem dX0_minutesThatAre_51 : decode cX0_minutesThatAre 51 = .ok (.iload_n 2, 1) := by decide +kernel
theorem dX0_minutesThatAre_52 : decode cX0_minutesThatAre 52 = .ok (.ireturn, 1) := by decide +kernel
theorem dX0_hasUnfiled_0 : decode cX0_hasUnfiled 0 = .ok (.aload_n 0, 1) := by decide +kernel
theorem dX0_hasUnfiled_1 : decode cX0_hasUnfiled 1 = .ok (.iconst 0, 1) := by decide +kernel
theorem dX0_hasUnfiled_2 : decode cX0_hasUnfiled 2 = .ok (.invokevirtual 35, 3) := by decide +kernel
theorem dX0_hasUnfiled_5 : decode cX0_hasUnfiled 5 = .ok (.ifCond .le 7, 3) := by decide +kernel
theorem dX0_hasUnfiled_8 : decode cX0_hasUnfiled 8 = .ok (.iconst 1, 1) := by decide +kernel
theorem dX0_hasUnfiled_9 : decode cX0_hasUnfiled 9 = .ok (.goto 4, 3) := by decide +kernel
theorem dX0_hasUnfiled_12 : decode cX0_hasUnfiled 12 = .ok (.iconst 0, 1) := by decide +kernel
theorem dX0_hasUnfiled_13 : decode cX0_hasUnfiled 13 = .ok (.ireturn, 1) := by decide +kernel
theorem dX0_fileTheRest_0 : decode cX0_fileTheRest 0 = .ok (.aload_n 0, 1) := by decide +kernel
theorem dX0_fileTheRest_1 : decode cX0_fileTheRest 1 = .ok (.getfield 39, 3) := by decide +kernel
theorem dX0_fileTheRest_4 : decode cX0_fileTheRest 4 = .ok (.istore_n 1, 1) := by decide +kernel
theorem dX0_fileTheRest_5 : decode cX0_fileTheRest 5 = .ok (.iconst 0, 1) := by decide +kernel
theorem dX0_fileTheRest_6 : decode cX0_fileTheRest 6 = .ok (.istore_n 2, 1) := by decide +kernel
theorem dX0_fileTheRest_7 : decode cX0_fileTheRest 7 = .ok (.iload_n 2, 1) := by decide +kernel
theorem dX0_fileTheRest_8 : decode cX0_fileTheRest 8 = .ok (.aload_n 0, 1) := by decide +kernel
theorem dX0_fileTheRest_9 : decode cX0_fileTheRest 9 = .ok (.getfield 12, 3) := by decide +kernel
theorem dX0_fileTheRest_12 : decode cX0_fileTheRest 12 = .ok (.invokevirtual 18, 3) := by decide +kernel
theorem dX0_fileTheRest_15 : decode cX0_fileTheRest 15 = .ok (.if_icmp .ge 38, 3) := by decide +kernel
theorem dX0_fileTheRest_18 : decode cX0_fileTheRest 18 = .ok (.aload_n 0, 1) := by decide +kernel
theorem dX0_fileTheRest_19 : decode cX0_fileTheRest 19 = .ok (.getfield 12, 3) := by decide +kernel
theorem dX0_fileTheRest_22 : decode cX0_fileTheRest 22 = .ok (.iload_n 2, 1) := by decide +kernel
theorem dX0_fileTheRest_23 : decode cX0_fileTheRest 23 = .ok (.invokevirtual 22, 3) := by decide +kernel
theorem dX0_fileTheRest_26 : decode cX0_fileTheRest 26 = .ok (.checkcast 26, 3) := by decide +kernel
theorem dX0_fileTheRest_29 : decode cX0_fileTheRest 29 = .ok (.astore_n 3, 1) := by decide +kernel
theorem dX0_fileTheRest_30 : decode cX0_fileTheRest 30 = .ok (.aload_n 3, 1) := by decide +kernel
theorem dX0_fileTheRest_31 : decode cX0_fileTheRest 31 = .ok (.getfield 28, 3) := by decide +kernel
theorem dX0_fileTheRest_34 : decode cX0_fileTheRest 34 = .ok (.ifCond .ne 13, 3) := by decide +kernel
theorem dX0_fileTheRest_37 : decode cX0_fileTheRest 37 = .ok (.aload_n 3, 1) := by decide +kernel
theorem dX0_fileTheRest_38 : decode cX0_fileTheRest 38 = .ok (.iconst 1, 1) := by decide +kernel
theorem dX0_fileTheRest_39 : decode cX0_fileTheRest 39 = .ok (.putfield 28, 3) := by decide +kernel
theorem dX0_fileTheRest_42 : decode cX0_fileTheRest 42 = .ok (.aload_n 3, 1) := by decide +kernel
theorem dX0_fileTheRest_43 : decode cX0_fileTheRest 43 = .ok (.iload_n 1, 1) := by decide +kernel
theorem dX0_fileTheRest_44 : decode cX0_fileTheRest 44 = .ok (.putfield 42, 3) := by decide +kernel
theorem dX0_fileTheRest_47 : decode cX0_fileTheRest 47 = .ok (.iinc 2 1, 3) := by decide +kernel
theorem dX0_fileTheRest_50 : decode cX0_fileTheRest 50 = .ok (.goto (-43), 3) := by decide +kernel
theorem dX0_fileTheRest_53 : decode cX0_fileTheRest 53 = .ok (.aload_n 0, 1) := by decide +kernel
theorem dX0_fileTheRest_54 : decode cX0_fileTheRest 54 = .ok (.dup, 1) := by decide +kernel
theorem dX0_fileTheRest_55 : decode cX0_fileTheRest 55 = .ok (.getfield 39, 3) := by decide +kernel
theorem dX0_fileTheRest_58 : decode cX0_fileTheRest 58 = .ok (.iconst 1, 1) := by decide +kernel
theorem dX0_fileTheRest_59 : decode cX0_fileTheRest 59 = .ok (.iadd, 1) := by decide +kernel
theorem dX0_fileTheRest_60 : decode cX0_fileTheRest 60 = .ok (.putfield 39, 3) := by decide +kernel
theorem dX0_fileTheRest_63 : decode cX0_fileTheRest 63 = .ok (.iload_n 1, 1) := by decide +kernel
theorem dX0_fileTheRest_64 : decode cX0_fileTheRest 64 = .ok (.ireturn, 1) := by decide +kernel
theorem dX0_takeNextFile_0 : decode cX0_takeNextFile 0 = .ok (.iconst 0, 1) := by decide +kernel
theorem dX0_takeNextFile_1 : decode cX0_takeNextFile 1 = .ok (.istore_n 2, 1) := by decide +kernel
theorem dX0_takeNextFile_2 : decode cX0_takeNextFile 2 = .ok (.iconst 0, 1) := by decide +kernel
theorem dX0_takeNextFile_3 : decode cX0_takeNextFile 3 = .ok (.istore_n 3, 1) := by decide +kernel
theorem dX0_takeNextFile_4 : decode cX0_takeNextFile 4 = .ok (.iload_n 3, 1) := by decide +kernel
theorem dX0_takeNextFile_5 : decode cX0_takeNextFile 5 = .ok (.aload_n 0, 1) := by decide +kernel
theorem dX0_takeNextFile_6 : decode cX0_takeNextFile 6 = .ok (.getfield 12, 3) := by decide +kernel
theorem dX0_takeNextFile_9 : decode cX0_takeNextFile 9 = .ok (.invokevirtual 18, 3) := by decide +kernel
theorem dX0_takeNextFile_12 : decode cX0_takeNextFile 12 = .ok (.if_icmp .ge 67, 3) := by decide +kernel
theorem dX0_takeNextFile_15 : decode cX0_takeNextFile 15 = .ok (.aload_n 0, 1) := by decide +kernel
theorem dX0_takeNextFile_16 : decode cX0_takeNextFile 16 = .ok (.getfield 12, 3) := by decide +kernel
theorem dX0_takeNextFile_19 : decode cX0_takeNextFile 19 = .ok (.iload_n 3, 1) := by decide +kernel
theorem dX0_takeNextFile_20 : decode cX0_takeNextFile 20 = .ok (.invokevirtual 22, 3) := by decide +kernel
theorem dX0_takeNextFile_23 : decode cX0_takeNextFile 23 = .ok (.checkcast 26, 3) := by decide +kernel
theorem dX0_takeNextFile_26 : decode cX0_takeNextFile 26 = .ok (.astore 4, 2) := by decide +kernel
theorem dX0_takeNextFile_28 : decode cX0_takeNextFile 28 = .ok (.aload 4, 2) := by decide +kernel
theorem dX0_takeNextFile_30 : decode cX0_takeNextFile 30 = .ok (.getfield 42, 3) := by decide +kernel
theorem dX0_takeNextFile_33 : decode cX0_takeNextFile 33 = .ok (.aload_n 0, 1) := by decide +kernel
theorem dX0_takeNextFile_34 : decode cX0_takeNextFile 34 = .ok (.getfield 45, 3) := by decide +kernel
theorem dX0_takeNextFile_37 : decode cX0_takeNextFile 37 = .ok (.if_icmp .eq 6, 3) := by decide +kernel
theorem dX0_takeNextFile_40 : decode cX0_takeNextFile 40 = .ok (.goto 33, 3) := by decide +kernel
theorem dX0_takeNextFile_43 : decode cX0_takeNextFile 43 = .ok (.iload_n 1, 1) := by decide +kernel
theorem dX0_takeNextFile_44 : decode cX0_takeNextFile 44 = .ok (.aload 4, 2) := by decide +kernel
theorem dX0_takeNextFile_46 : decode cX0_takeNextFile 46 = .ok (.getfield 48, 3) := by decide +kernel
theorem dX0_takeNextFile_49 : decode cX0_takeNextFile 49 = .ok (.isub, 1) := by decide +kernel
theorem dX0_takeNextFile_50 : decode cX0_takeNextFile 50 = .ok (.ldc 51, 2) := by decide +kernel
theorem dX0_takeNextFile_52 : decode cX0_takeNextFile 52 = .ok (.if_icmp .lt 15, 3) := by decide +kernel
theorem dX0_takeNextFile_55 : decode cX0_takeNextFile 55 = .ok (.aload 4, 2) := by decide +kernel
theorem dX0_takeNextFile_57 : decode cX0_takeNextFile 57 = .ok (.iconst 3, 1) := by decide +kernel
theorem dX0_takeNextFile_58 : decode cX0_takeNextFile 58 = .ok (.putfield 28, 3) := by decide +kernel
theorem dX0_takeNextFile_61 : decode cX0_takeNextFile 61 = .ok (.iinc 2 1, 3) := by decide +kernel
theorem dX0_takeNextFile_64 : decode cX0_takeNextFile 64 = .ok (.goto 9, 3) := by decide +kernel
theorem dX0_takeNextFile_67 : decode cX0_takeNextFile 67 = .ok (.aload 4, 2) := by decide +kernel
theorem dX0_takeNextFile_69 : decode cX0_takeNextFile 69 = .ok (.iconst 2, 1) := by decide +kernel
theorem dX0_takeNextFile_70 : decode cX0_takeNextFile 70 = .ok (.putfield 28, 3) := by decide +kernel
theorem dX0_takeNextFile_73 : decode cX0_takeNextFile 73 = .ok (.iinc 3 1, 3) := by decide +kernel
theorem dX0_takeNextFile_76 : decode cX0_takeNextFile 76 = .ok (.goto (-72), 3) := by decide +kernel
theorem dX0_takeNextFile_79 : decode cX0_takeNextFile 79 = .ok (.aload_n 0, 1) := by decide +kernel
theorem dX0_takeNextFile_80 : decode cX0_takeNextFile 80 = .ok (.dup, 1) := by decide +kernel
theorem dX0_takeNextFile_81 : decode cX0_takeNextFile 81 = .ok (.getfield 45, 3) := by decide +kernel
theorem dX0_takeNextFile_84 : decode cX0_takeNextFile 84 = .ok (.iconst 1, 1) := by decide +kernel
theorem dX0_takeNextFile_85 : decode cX0_takeNextFile 85 = .ok (.iadd, 1) := by decide +kernel
theorem dX0_takeNextFile_86 : decode cX0_takeNextFile 86 = .ok (.putfield 45, 3) := by decide +kernel
theorem dX0_takeNextFile_89 : decode cX0_takeNextFile 89 = .ok (.iload_n 2, 1) := by decide +kernel
theorem dX0_takeNextFile_90 : decode cX0_takeNextFile 90 = .ok (.ireturn, 1) := by decide +kernel
theorem dX0_owed_0 : decode cX0_owed 0 = .ok (.aload_n 0, 1) := by decide +kernel
theorem dX0_owed_1 : decode cX0_owed 1 = .ok (.iconst 2, 1) := by decide +kernel
theorem dX0_owed_2 : decode cX0_owed 2 = .ok (.invokevirtual 35, 3) := by decide +kernel
theorem dX0_owed_5 : decode cX0_owed 5 = .ok (.istore_n 1, 1) := by decide +kernel
theorem dX0_owed_6 : decode cX0_owed 6 = .ok (.iconst 0, 1) := by decide +kernel
theorem dX0_owed_7 : decode cX0_owed 7 = .ok (.istore_n 2, 1) := by decide +kernel
theorem dX0_owed_8 : decode cX0_owed 8 = .ok (.iconst 0, 1) := by decide +kernel
theorem dX0_owed_9 : decode cX0_owed 9 = .ok (.istore_n 3, 1) := by decide +kernel
theorem dX0_owed_10 : decode cX0_owed 10 = .ok (.iload_n 3, 1) := by decide +kernel
theorem dX0_owed_11 : decode cX0_owed 11 = .ok (.aload_n 0, 1) := by decide +kernel
theorem dX0_owed_12 : decode cX0_owed 12 = .ok (.getfield 12, 3) := by decide +kernel
theorem dX0_owed_15 : decode cX0_owed 15 = .ok (.invokevirtual 18, 3) := by decide +kernel
theorem dX0_owed_18 : decode cX0_owed 18 = .ok (.if_icmp .ge 27, 3) := by decide +kernel
theorem dX0_owed_21 : decode cX0_owed 21 = .ok (.iload_n 2, 1) := by decide +kernel
theorem dX0_owed_22 : decode cX0_owed 22 = .ok (.aload_n 0, 1) := by decide +kernel
theorem dX0_owed_23 : decode cX0_owed 23 = .ok (.getfield 12, 3) := by decide +kernel
theorem dX0_owed_26 : decode cX0_owed 26 = .ok (.iload_n 3, 1) := by decide +kernel
theorem dX0_owed_27 : decode cX0_owed 27 = .ok (.invokevirtual 22, 3) := by decide +kernel
theorem dX0_owed_30 : decode cX0_owed 30 = .ok (.checkcast 26, 3) := by decide +kernel
theorem dX0_owed_33 : decode cX0_owed 33 = .ok (.iload_n 1, 1) := by decide +kernel
theorem dX0_owed_34 : decode cX0_owed 34 = .ok (.invokevirtual 52, 3) := by decide +kernel
theorem dX0_owed_37 : decode cX0_owed 37 = .ok (.iadd, 1) := by decide +kernel
theorem dX0_owed_38 : decode cX0_owed 38 = .ok (.istore_n 2, 1) := by decide +kernel
theorem dX0_owed_39 : decode cX0_owed 39 = .ok (.iinc 3 1, 3) := by decide +kernel
theorem dX0_owed_42 : decode cX0_owed 42 = .ok (.goto (-32), 3) := by decide +kernel
theorem dX0_owed_45 : decode cX0_owed 45 = .ok (.iload_n 2, 1) := by decide +kernel
theorem dX0_owed_46 : decode cX0_owed 46 = .ok (.ireturn, 1) := by decide +kernel
theorem dX0_owedFileByFile_0 : decode cX0_owedFileByFile 0 = .ok (.iconst 0, 1) := by decide +kernel
theorem dX0_owedFileByFile_1 : decode cX0_owedFileByFile 1 = .ok (.istore_n 1, 1) := by decide +kernel
theorem dX0_owedFileByFile_2 : decode cX0_owedFileByFile 2 = .ok (.iconst 0, 1) := by decide +kernel
theorem dX0_owedFileByFile_3 : decode cX0_owedFileByFile 3 = .ok (.istore_n 2, 1) := by decide +kernel
theorem dX0_owedFileByFile_4 : decode cX0_owedFileByFile 4 = .ok (.iload_n 2, 1) := by decide +kernel
theorem dX0_owedFileByFile_5 : decode cX0_owedFileByFile 5 = .ok (.aload_n 0, 1) := by decide +kernel
theorem dX0_owedFileByFile_6 : decode cX0_owedFileByFile 6 = .ok (.getfield 45, 3) := by decide +kernel
theorem dX0_owedFileByFile_9 : decode cX0_owedFileByFile 9 = .ok (.if_icmp .ge 17, 3) := by decide +kernel
theorem dX0_owedFileByFile_12 : decode cX0_owedFileByFile 12 = .ok (.iload_n 1, 1) := by decide +kernel
theorem dX0_owedFileByFile_13 : decode cX0_owedFileByFile 13 = .ok (.aload_n 0, 1) := by decide +kernel
theorem dX0_owedFileByFile_14 : decode cX0_owedFileByFile 14 = .ok (.iload_n 2, 1) := by decide +kernel
theorem dX0_owedFileByFile_15 : decode cX0_owedFileByFile 15 = .ok (.invokevirtual 55, 3) := by decide +kernel
theorem dX0_owedFileByFile_18 : decode cX0_owedFileByFile 18 = .ok (.iadd, 1) := by decide +kernel
theorem dX0_owedFileByFile_19 : decode cX0_owedFileByFile 19 = .ok (.istore_n 1, 1) := by decide +kernel
theorem dX0_owedFileByFile_20 : decode cX0_owedFileByFile 20 = .ok (.iinc 2 1, 3) := by decide +kernel
theorem dX0_owedFileByFile_23 : decode cX0_owedFileByFile 23 = .ok (.goto (-19), 3) := by decide +kernel
theorem dX0_owedFileByFile_26 : decode cX0_owedFileByFile 26 = .ok (.iconst 0, 1) := by decide +kernel
theorem dX0_owedFileByFile_27 : decode cX0_owedFileByFile 27 = .ok (.istore_n 2, 1) := by decide +kernel
theorem dX0_owedFileByFile_28 : decode cX0_owedFileByFile 28 = .ok (.iconst 0, 1) := by decide +kernel
theorem dX0_owedFileByFile_29 : decode cX0_owedFileByFile 29 = .ok (.istore_n 3, 1) := by decide +kernel
theorem dX0_owedFileByFile_30 : decode cX0_owedFileByFile 30 = .ok (.iload_n 3, 1) := by decide +kernel
theorem dX0_owedFileByFile_31 : decode cX0_owedFileByFile 31 = .ok (.aload_n 0, 1) := by decide +kernel
theorem dX0_owedFileByFile_32 : decode cX0_owedFileByFile 32 = .ok (.getfield 45, 3) := by decide +kernel
theorem dX0_owedFileByFile_35 : decode cX0_owedFileByFile 35 = .ok (.if_icmp .ge 18, 3) := by decide +kernel
theorem dX0_owedFileByFile_38 : decode cX0_owedFileByFile 38 = .ok (.iload_n 2, 1) := by decide +kernel
theorem dX0_owedFileByFile_39 : decode cX0_owedFileByFile 39 = .ok (.aload_n 0, 1) := by decide +kernel
theorem dX0_owedFileByFile_40 : decode cX0_owedFileByFile 40 = .ok (.iload_n 3, 1) := by decide +kernel
theorem dX0_owedFileByFile_41 : decode cX0_owedFileByFile 41 = .ok (.iload_n 1, 1) := by decide +kernel
theorem dX0_owedFileByFile_42 : decode cX0_owedFileByFile 42 = .ok (.invokevirtual 58, 3) := by decide +kernel
theorem dX0_owedFileByFile_45 : decode cX0_owedFileByFile 45 = .ok (.iadd, 1) := by decide +kernel
theorem dX0_owedFileByFile_46 : decode cX0_owedFileByFile 46 = .ok (.istore_n 2, 1) := by decide +kernel
theorem dX0_owedFileByFile_47 : decode cX0_owedFileByFile 47 = .ok (.iinc 3 1, 3) := by decide +kernel
theorem dX0_owedFileByFile_50 : decode cX0_owedFileByFile 50 = .ok (.goto (-20), 3) := by decide +kernel
theorem dX0_owedFileByFile_53 : decode cX0_owedFileByFile 53 = .ok (.iload_n 2, 1) := by decide +kernel
theorem dX0_owedFileByFile_54 : decode cX0_owedFileByFile 54 = .ok (.ireturn, 1) := by decide +kernel
theorem dX0_minutesTakenIn_0 : decode cX0_minutesTakenIn 0 = .ok (.iconst 0, 1) := by decide +kernel
theorem dX0_minutesTakenIn_1 : decode cX0_minutesTakenIn 1 = .ok (.istore_n 2, 1) := by decide +kernel
theorem dX0_minutesTakenIn_2 : decode cX0_minutesTakenIn 2 = .ok (.iconst 0, 1) := by decide +kernel
theorem dX0_minutesTakenIn_3 : decode cX0_minutesTakenIn 3 = .ok (.istore_n 3, 1) := by decide +kernel
theorem dX0_minutesTakenIn_4 : decode cX0_minutesTakenIn 4 = .ok (.iload_n 3, 1) := by decide +kernel
theorem dX0_minutesTakenIn_5 : decode cX0_minutesTakenIn 5 = .ok (.aload_n 0, 1) := by decide +kernel
theorem dX0_minutesTakenIn_6 : decode cX0_minutesTakenIn 6 = .ok (.getfield 12, 3) := by decide +kernel
theorem dX0_minutesTakenIn_9 : decode cX0_minutesTakenIn 9 = .ok (.invokevirtual 18, 3) := by decide +kernel
theorem dX0_minutesTakenIn_12 : decode cX0_minutesTakenIn 12 = .ok (.if_icmp .ge 48, 3) := by decide +kernel
theorem dX0_minutesTakenIn_15 : decode cX0_minutesTakenIn 15 = .ok (.aload_n 0, 1) := by decide +kernel
theorem dX0_minutesTakenIn_16 : decode cX0_minutesTakenIn 16 = .ok (.getfield 12, 3) := by decide +kernel
theorem dX0_minutesTakenIn_19 : decode cX0_minutesTakenIn 19 = .ok (.iload_n 3, 1) := by decide +kernel
theorem dX0_minutesTakenIn_20 : decode cX0_minutesTakenIn 20 = .ok (.invokevirtual 22, 3) := by decide +kernel
theorem dX0_minutesTakenIn_23 : decode cX0_minutesTakenIn 23 = .ok (.checkcast 26, 3) := by decide +kernel
theorem dX0_minutesTakenIn_26 : decode cX0_minutesTakenIn 26 = .ok (.astore 4, 2) := by decide +kernel
theorem dX0_minutesTakenIn_28 : decode cX0_minutesTakenIn 28 = .ok (.aload 4, 2) := by decide +kernel
theorem dX0_minutesTakenIn_30 : decode cX0_minutesTakenIn 30 = .ok (.getfield 42, 3) := by decide +kernel
theorem dX0_minutesTakenIn_33 : decode cX0_minutesTakenIn 33 = .ok (.iload_n 1, 1) := by decide +kernel
theorem dX0_minutesTakenIn_34 : decode cX0_minutesTakenIn 34 = .ok (.if_icmp .ne 20, 3) := by decide +kernel
theorem dX0_minutesTakenIn_37 : decode cX0_minutesTakenIn 37 = .ok (.aload 4, 2) := by decide +kernel
theorem dX0_minutesTakenIn_39 : decode cX0_minutesTakenIn 39 = .ok (.getfield 28, 3) := by decide +kernel
theorem dX0_minutesTakenIn_42 : decode cX0_minutesTakenIn 42 = .ok (.iconst 2, 1) := by decide +kernel
theorem dX0_minutesTakenIn_43 : decode cX0_minutesTakenIn 43 = .ok (.if_icmp .ne 11, 3) := by decide +kernel
theorem dX0_minutesTakenIn_46 : decode cX0_minutesTakenIn 46 = .ok (.iload_n 2, 1) := by decide +kernel
theorem dX0_minutesTakenIn_47 : decode cX0_minutesTakenIn 47 = .ok (.aload 4, 2) := by decide +kernel
theorem dX0_minutesTakenIn_49 : decode cX0_minutesTakenIn 49 = .ok (.getfield 32, 3) := by decide +kernel
theorem dX0_minutesTakenIn_52 : decode cX0_minutesTakenIn 52 = .ok (.iadd, 1) := by decide +kernel
theorem dX0_minutesTakenIn_53 : decode cX0_minutesTakenIn 53 = .ok (.istore_n 2, 1) := by decide +kernel
theorem dX0_minutesTakenIn_54 : decode cX0_minutesTakenIn 54 = .ok (.iinc 3 1, 3) := by decide +kernel
theorem dX0_minutesTakenIn_57 : decode cX0_minutesTakenIn 57 = .ok (.goto (-53), 3) := by decide +kernel
theorem dX0_minutesTakenIn_60 : decode cX0_minutesTakenIn 60 = .ok (.iload_n 2, 1) := by decide +kernel
theorem dX0_minutesTakenIn_61 : decode cX0_minutesTakenIn 61 = .ok (.ireturn, 1) := by decide +kernel
theorem dX0_owedIn_0 : decode cX0_owedIn 0 = .ok (.iconst 0, 1) := by decide +kernel
theorem dX0_owedIn_1 : decode cX0_owedIn 1 = .ok (.istore_n 3, 1) := by decide +kernel
theorem dX0_owedIn_2 : decode cX0_owedIn 2 = .ok (.iconst 0, 1) := by decide +kernel
theorem dX0_owedIn_3 : decode cX0_owedIn 3 = .ok (.istore 4, 2) := by decide +kernel
theorem dX0_owedIn_5 : decode cX0_owedIn 5 = .ok (.iload 4, 2) := by decide +kernel
theorem dX0_owedIn_7 : decode cX0_owedIn 7 = .ok (.aload_n 0, 1) := by decide +kernel
theorem dX0_owedIn_8 : decode cX0_owedIn 8 = .ok (.getfield 12, 3) := by decide +kernel
theorem dX0_owedIn_11 : decode cX0_owedIn 11 = .ok (.invokevirtual 18, 3) := by decide +kernel
theorem dX0_owedIn_14 : decode cX0_owedIn 14 = .ok (.if_icmp .ge 41, 3) := by decide +kernel
theorem dX0_owedIn_17 : decode cX0_owedIn 17 = .ok (.aload_n 0, 1) := by decide +kernel
theorem dX0_owedIn_18 : decode cX0_owedIn 18 = .ok (.getfield 12, 3) := by decide +kernel
theorem dX0_owedIn_21 : decode cX0_owedIn 21 = .ok (.iload 4, 2) := by decide +kernel
theorem dX0_owedIn_23 : decode cX0_owedIn 23 = .ok (.invokevirtual 22, 3) := by decide +kernel
theorem dX0_owedIn_26 : decode cX0_owedIn 26 = .ok (.checkcast 26, 3) := by decide +kernel
theorem dX0_owedIn_29 : decode cX0_owedIn 29 = .ok (.astore 5, 2) := by decide +kernel
theorem dX0_owedIn_31 : decode cX0_owedIn 31 = .ok (.aload 5, 2) := by decide +kernel
theorem dX0_owedIn_33 : decode cX0_owedIn 33 = .ok (.getfield 42, 3) := by decide +kernel
theorem dX0_owedIn_36 : decode cX0_owedIn 36 = .ok (.iload_n 1, 1) := by decide +kernel
theorem dX0_owedIn_37 : decode cX0_owedIn 37 = .ok (.if_icmp .ne 12, 3) := by decide +kernel
theorem dX0_owedIn_40 : decode cX0_owedIn 40 = .ok (.iload_n 3, 1) := by decide +kernel
theorem dX0_owedIn_41 : decode cX0_owedIn 41 = .ok (.aload 5, 2) := by decide +kernel
theorem dX0_owedIn_43 : decode cX0_owedIn 43 = .ok (.iload_n 2, 1) := by decide +kernel
theorem dX0_owedIn_44 : decode cX0_owedIn 44 = .ok (.invokevirtual 52, 3) := by decide +kernel
theorem dX0_owedIn_47 : decode cX0_owedIn 47 = .ok (.iadd, 1) := by decide +kernel
theorem dX0_owedIn_48 : decode cX0_owedIn 48 = .ok (.istore_n 3, 1) := by decide +kernel
theorem dX0_owedIn_49 : decode cX0_owedIn 49 = .ok (.iinc 4 1, 3) := by decide +kernel
theorem dX0_owedIn_52 : decode cX0_owedIn 52 = .ok (.goto (-47), 3) := by decide +kernel
theorem dX0_owedIn_55 : decode cX0_owedIn 55 = .ok (.iload_n 3, 1) := by decide +kernel
theorem dX0_owedIn_56 : decode cX0_owedIn 56 = .ok (.ireturn, 1) := by decide +kernel
theorem dX1_init_0 : decode cX1_init 0 = .ok (.aload_n 0, 1) := by decide +kernel
theorem dX1_init_1 : decode cX1_init 1 = .ok (.invokespecial 1, 3) := by decide +kernel
theorem dX1_init_4 : decode cX1_init 4 = .ok (.aload_n 0, 1) := by decide +kernel
theorem dX1_init_5 : decode cX1_init 5 = .ok (.iload_n 1, 1) := by decide +kernel
theorem dX1_init_6 : decode cX1_init 6 = .ok (.putfield 7, 3) := by decide +kernel
theorem dX1_init_9 : decode cX1_init 9 = .ok (.aload_n 0, 1) := by decide +kernel
theorem dX1_init_10 : decode cX1_init 10 = .ok (.iload_n 2, 1) := by decide +kernel
theorem dX1_init_11 : decode cX1_init 11 = .ok (.putfield 13, 3) := by decide +kernel
theorem dX1_init_14 : decode cX1_init 14 = .ok (.aload_n 0, 1) := by decide +kernel
theorem dX1_init_15 : decode cX1_init 15 = .ok (.iload_n 3, 1) := by decide +kernel
theorem dX1_init_16 : decode cX1_init 16 = .ok (.putfield 16, 3) := by decide +kernel
theorem dX1_init_19 : decode cX1_init 19 = .ok (.aload_n 0, 1) := by decide +kernel
theorem dX1_init_20 : decode cX1_init 20 = .ok (.iload 4, 2) := by decide +kernel
theorem dX1_init_22 : decode cX1_init 22 = .ok (.putfield 19, 3) := by decide +kernel
theorem dX1_init_25 : decode cX1_init 25 = .ok (.aload_n 0, 1) := by decide +kernel
theorem dX1_init_26 : decode cX1_init 26 = .ok (.iload 5, 2) := by decide +kernel
theorem dX1_init_28 : decode cX1_init 28 = .ok (.putfield 22, 3) := by decide +kernel
theorem dX1_init_31 : decode cX1_init 31 = .ok (.aload_n 0, 1) := by decide +kernel
theorem dX1_init_32 : decode cX1_init 32 = .ok (.iload 6, 2) := by decide +kernel
theorem dX1_init_34 : decode cX1_init 34 = .ok (.putfield 25, 3) := by decide +kernel
theorem dX1_init_37 : decode cX1_init 37 = .ok (.aload_n 0, 1) := by decide +kernel
theorem dX1_init_38 : decode cX1_init 38 = .ok (.iload 7, 2) := by decide +kernel
theorem dX1_init_40 : decode cX1_init 40 = .ok (.putfield 28, 3) := by decide +kernel
theorem dX1_init_43 : decode cX1_init 43 = .ok (.return_, 1) := by decide +kernel
theorem dX1_holds_0 : decode cX1_holds 0 = .ok (.aload_n 0, 1) := by decide +kernel
theorem dX1_holds_1 : decode cX1_holds 1 = .ok (.getfield 7, 3) := by decide +kernel
theorem dX1_holds_4 : decode cX1_holds 4 = .ok (.iload_n 1, 1) := by decide +kernel
theorem dX1_holds_5 : decode cX1_holds 5 = .ok (.if_icmp .ne 31, 3) := by decide +kernel
theorem dX1_holds_8 : decode cX1_holds 8 = .ok (.aload_n 0, 1) := by decide +kernel
theorem dX1_holds_9 : decode cX1_holds 9 = .ok (.getfield 13, 3) := by decide +kernel
theorem dX1_holds_12 : decode cX1_holds 12 = .ok (.iload_n 2, 1) := by decide +kernel
theorem dX1_holds_13 : decode cX1_holds 13 = .ok (.if_icmp .ne 23, 3) := by decide +kernel
theorem dX1_holds_16 : decode cX1_holds 16 = .ok (.aload_n 0, 1) := by decide +kernel
theorem dX1_holds_17 : decode cX1_holds 17 = .ok (.getfield 16, 3) := by decide +kernel
theorem dX1_holds_20 : decode cX1_holds 20 = .ok (.iload_n 3, 1) := by decide +kernel
theorem dX1_holds_21 : decode cX1_holds 21 = .ok (.if_icmp .gt 15, 3) := by decide +kernel
theorem dX1_holds_24 : decode cX1_holds 24 = .ok (.iload_n 3, 1) := by decide +kernel
theorem dX1_holds_25 : decode cX1_holds 25 = .ok (.aload_n 0, 1) := by decide +kernel
theorem dX1_holds_26 : decode cX1_holds 26 = .ok (.getfield 19, 3) := by decide +kernel
theorem dX1_holds_29 : decode cX1_holds 29 = .ok (.if_icmp .ge 7, 3) := by decide +kernel
theorem dX1_holds_32 : decode cX1_holds 32 = .ok (.iconst 1, 1) := by decide +kernel
theorem dX1_holds_33 : decode cX1_holds 33 = .ok (.goto 4, 3) := by decide +kernel
theorem dX1_holds_36 : decode cX1_holds 36 = .ok (.iconst 0, 1) := by decide +kernel
theorem dX1_holds_37 : decode cX1_holds 37 = .ok (.ireturn, 1) := by decide +kernel
theorem dX1_priceAt_0 : decode cX1_priceAt 0 = .ok (.aload_n 0, 1) := by decide +kernel
theorem dX1_priceAt_1 : decode cX1_priceAt 1 = .ok (.getfield 25, 3) := by decide +kernel
theorem dX1_priceAt_4 : decode cX1_priceAt 4 = .ok (.ifCond .le 18, 3) := by decide +kernel
theorem dX1_priceAt_7 : decode cX1_priceAt 7 = .ok (.iload_n 1, 1) := by decide +kernel
theorem dX1_priceAt_8 : decode cX1_priceAt 8 = .ok (.aload_n 0, 1) := by decide +kernel
theorem dX1_priceAt_9 : decode cX1_priceAt 9 = .ok (.getfield 25, 3) := by decide +kernel
theorem dX1_priceAt_12 : decode cX1_priceAt 12 = .ok (.if_icmp .lt 10, 3) := by decide +kernel
theorem dX1_priceAt_15 : decode cX1_priceAt 15 = .ok (.aload_n 0, 1) := by decide +kernel
theorem dX1_priceAt_16 : decode cX1_priceAt 16 = .ok (.getfield 28, 3) := by decide +kernel
theorem dX1_priceAt_19 : decode cX1_priceAt 19 = .ok (.goto 7, 3) := by decide +kernel
theorem dX1_priceAt_22 : decode cX1_priceAt 22 = .ok (.aload_n 0, 1) := by decide +kernel
theorem dX1_priceAt_23 : decode cX1_priceAt 23 = .ok (.getfield 22, 3) := by decide +kernel
theorem dX1_priceAt_26 : decode cX1_priceAt 26 = .ok (.ireturn, 1) := by decide +kernel
theorem dX2_init_0 : decode cX2_init 0 = .ok (.aload_n 0, 1) := by decide +kernel
theorem dX2_init_1 : decode cX2_init 1 = .ok (.invokespecial 3, 3) := by decide +kernel
theorem dX2_init_4 : decode cX2_init 4 = .ok (.aload_n 0, 1) := by decide +kernel
theorem dX2_init_5 : decode cX2_init 5 = .ok (.bipush 10, 2) := by decide +kernel
theorem dX2_init_7 : decode cX2_init 7 = .ok (.newarray .int, 2) := by decide +kernel
theorem dX2_init_9 : decode cX2_init 9 = .ok (.putfield 9, 3) := by decide +kernel
theorem dX2_init_12 : decode cX2_init 12 = .ok (.aload_n 0, 1) := by decide +kernel
theorem dX2_init_13 : decode cX2_init 13 = .ok (.getfield 9, 3) := by decide +kernel
theorem dX2_init_16 : decode cX2_init 16 = .ok (.iconst (-1), 1) := by decide +kernel
theorem dX2_init_17 : decode cX2_init 17 = .ok (.invokestatic 15, 3) := by decide +kernel
theorem dX2_init_20 : decode cX2_init 20 = .ok (.return_, 1) := by decide +kernel
theorem dX2_latest_0 : decode cX2_latest 0 = .ok (.aload_n 0, 1) := by decide +kernel
theorem dX2_latest_1 : decode cX2_latest 1 = .ok (.iload_n 1, 1) := by decide +kernel
theorem dX2_latest_2 : decode cX2_latest 2 = .ok (.invokevirtual 21, 3) := by decide +kernel
theorem dX2_latest_5 : decode cX2_latest 5 = .ok (.ifCond .eq 12, 3) := by decide +kernel
theorem dX2_latest_8 : decode cX2_latest 8 = .ok (.aload_n 0, 1) := by decide +kernel
theorem dX2_latest_9 : decode cX2_latest 9 = .ok (.getfield 9, 3) := by decide +kernel
theorem dX2_latest_12 : decode cX2_latest 12 = .ok (.iload_n 1, 1) := by decide +kernel
theorem dX2_latest_13 : decode cX2_latest 13 = .ok (.iaload, 1) := by decide +kernel
theorem dX2_latest_14 : decode cX2_latest 14 = .ok (.goto 4, 3) := by decide +kernel
theorem dX2_latest_17 : decode cX2_latest 17 = .ok (.iconst (-1), 1) := by decide +kernel
theorem dX2_latest_18 : decode cX2_latest 18 = .ok (.ireturn, 1) := by decide +kernel
theorem dX2_has_0 : decode cX2_has 0 = .ok (.aload_n 0, 1) := by decide +kernel
theorem dX2_has_1 : decode cX2_has 1 = .ok (.iload_n 1, 1) := by decide +kernel
theorem dX2_has_2 : decode cX2_has 2 = .ok (.invokevirtual 25, 3) := by decide +kernel
theorem dX2_has_5 : decode cX2_has 5 = .ok (.iconst (-1), 1) := by decide +kernel
theorem dX2_has_6 : decode cX2_has 6 = .ok (.if_icmp .eq 7, 3) := by decide +kernel
theorem dX2_has_9 : decode cX2_has 9 = .ok (.iconst 1, 1) := by decide +kernel
theorem dX2_has_10 : decode cX2_has 10 = .ok (.goto 4, 3) := by decide +kernel
theorem dX2_has_13 : decode cX2_has 13 = .ok (.iconst 0, 1) := by decide +kernel
theorem dX2_has_14 : decode cX2_has 14 = .ok (.ireturn, 1) := by decide +kernel
theorem dX2_put_0 : decode cX2_put 0 = .ok (.aload_n 0, 1) := by decide +kernel
theorem dX2_put_1 : decode cX2_put 1 = .ok (.iload_n 1, 1) := by decide +kernel
theorem dX2_put_2 : decode cX2_put 2 = .ok (.invokevirtual 21, 3) := by decide +kernel
theorem dX2_put_5 : decode cX2_put 5 = .ok (.ifCond .eq 10, 3) := by decide +kernel
theorem dX2_put_8 : decode cX2_put 8 = .ok (.aload_n 0, 1) := by decide +kernel
theorem dX2_put_9 : decode cX2_put 9 = .ok (.getfield 9, 3) := by decide +kernel
theorem dX2_put_12 : decode cX2_put 12 = .ok (.iload_n 1, 1) := by decide +kernel
theorem dX2_put_13 : decode cX2_put 13 = .ok (.iload_n 2, 1) := by decide +kernel
theorem dX2_put_14 : decode cX2_put 14 = .ok (.iastore, 1) := by decide +kernel
theorem dX2_put_15 : decode cX2_put 15 = .ok (.return_, 1) := by decide +kernel
theorem dX2_takeOut_0 : decode cX2_takeOut 0 = .ok (.aload_n 0, 1) := by decide +kernel
theorem dX2_takeOut_1 : decode cX2_takeOut 1 = .ok (.iload_n 1, 1) := by decide +kernel
theorem dX2_takeOut_2 : decode cX2_takeOut 2 = .ok (.iconst (-1), 1) := by decide +kernel
theorem dX2_takeOut_3 : decode cX2_takeOut 3 = .ok (.invokevirtual 29, 3) := by decide +kernel
theorem dX2_takeOut_6 : decode cX2_takeOut 6 = .ok (.return_, 1) := by decide +kernel
theorem dX2_takeOutUpTo_0 : decode cX2_takeOutUpTo 0 = .ok (.iconst 0, 1) := by decide +kernel
theorem dX2_takeOutUpTo_1 : decode cX2_takeOutUpTo 1 = .ok (.istore_n 2, 1) := by decide +kernel
theorem dX2_takeOutUpTo_2 : decode cX2_takeOutUpTo 2 = .ok (.iload_n 2, 1) := by decide +kernel
theorem dX2_takeOutUpTo_3 : decode cX2_takeOutUpTo 3 = .ok (.aload_n 0, 1) := by decide +kernel
theorem dX2_takeOutUpTo_4 : decode cX2_takeOutUpTo 4 = .ok (.getfield 9, 3) := by decide +kernel
theorem dX2_takeOutUpTo_7 : decode cX2_takeOutUpTo 7 = .ok (.arraylength, 1) := by decide +kernel
theorem dX2_takeOutUpTo_8 : decode cX2_takeOutUpTo 8 = .ok (.if_icmp .ge 26, 3) := by decide +kernel
theorem dX2_takeOutUpTo_11 : decode cX2_takeOutUpTo 11 = .ok (.aload_n 0, 1) := by decide +kernel
theorem dX2_takeOutUpTo_12 : decode cX2_takeOutUpTo 12 = .ok (.getfield 9, 3) := by decide +kernel
theorem dX2_takeOutUpTo_15 : decode cX2_takeOutUpTo 15 = .ok (.iload_n 2, 1) := by decide +kernel
theorem dX2_takeOutUpTo_16 : decode cX2_takeOutUpTo 16 = .ok (.iaload, 1) := by decide +kernel
theorem dX2_takeOutUpTo_17 : decode cX2_takeOutUpTo 17 = .ok (.iload_n 1, 1) := by decide +kernel
theorem dX2_takeOutUpTo_18 : decode cX2_takeOutUpTo 18 = .ok (.if_icmp .gt 10, 3) := by decide +kernel
theorem dX2_takeOutUpTo_21 : decode cX2_takeOutUpTo 21 = .ok (.aload_n 0, 1) := by decide +kernel
theorem dX2_takeOutUpTo_22 : decode cX2_takeOutUpTo 22 = .ok (.getfield 9, 3) := by decide +kernel
theorem dX2_takeOutUpTo_25 : decode cX2_takeOutUpTo 25 = .ok (.iload_n 2, 1) := by decide +kernel
theorem dX2_takeOutUpTo_26 : decode cX2_takeOutUpTo 26 = .ok (.iconst (-1), 1) := by decide +kernel
theorem dX2_takeOutUpTo_27 : decode cX2_takeOutUpTo 27 = .ok (.iastore, 1) := by decide +kernel
theorem dX2_takeOutUpTo_28 : decode cX2_takeOutUpTo 28 = .ok (.iinc 2 1, 3) := by decide +kernel
theorem dX2_takeOutUpTo_31 : decode cX2_takeOutUpTo 31 = .ok (.goto (-29), 3) := by decide +kernel
theorem dX2_takeOutUpTo_34 : decode cX2_takeOutUpTo 34 = .ok (.return_, 1) := by decide +kernel
theorem dX2_clear_0 : decode cX2_clear 0 = .ok (.aload_n 0, 1) := by decide +kernel
theorem dX2_clear_1 : decode cX2_clear 1 = .ok (.getfield 9, 3) := by decide +kernel
theorem dX2_clear_4 : decode cX2_clear 4 = .ok (.iconst (-1), 1) := by decide +kernel
theorem dX2_clear_5 : decode cX2_clear 5 = .ok (.invokestatic 15, 3) := by decide +kernel
theorem dX2_clear_8 : decode cX2_clear 8 = .ok (.return_, 1) := by decide +kernel
theorem dX2_count_0 : decode cX2_count 0 = .ok (.iconst 0, 1) := by decide +kernel
theorem dX2_count_1 : decode cX2_count 1 = .ok (.istore_n 1, 1) := by decide +kernel
theorem dX2_count_2 : decode cX2_count 2 = .ok (.iconst 0, 1) := by decide +kernel
theorem dX2_count_3 : decode cX2_count 3 = .ok (.istore_n 2, 1) := by decide +kernel
theorem dX2_count_4 : decode cX2_count 4 = .ok (.iload_n 2, 1) := by decide +kernel
theorem dX2_count_5 : decode cX2_count 5 = .ok (.aload_n 0, 1) := by decide +kernel
theorem dX2_count_6 : decode cX2_count 6 = .ok (.getfield 9, 3) := by decide +kernel
theorem dX2_count_9 : decode cX2_count 9 = .ok (.arraylength, 1) := by decide +kernel
theorem dX2_count_10 : decode cX2_count 10 = .ok (.if_icmp .ge 22, 3) := by decide +kernel
theorem dX2_count_13 : decode cX2_count 13 = .ok (.aload_n 0, 1) := by decide +kernel
theorem dX2_count_14 : decode cX2_count 14 = .ok (.getfield 9, 3) := by decide +kernel
theorem dX2_count_17 : decode cX2_count 17 = .ok (.iload_n 2, 1) := by decide +kernel
theorem dX2_count_18 : decode cX2_count 18 = .ok (.iaload, 1) := by decide +kernel
theorem dX2_count_19 : decode cX2_count 19 = .ok (.iconst (-1), 1) := by decide +kernel
theorem dX2_count_20 : decode cX2_count 20 = .ok (.if_icmp .eq 6, 3) := by decide +kernel
theorem dX2_count_23 : decode cX2_count 23 = .ok (.iinc 1 1, 3) := by decide +kernel
theorem dX2_count_26 : decode cX2_count 26 = .ok (.iinc 2 1, 3) := by decide +kernel
theorem dX2_count_29 : decode cX2_count 29 = .ok (.goto (-25), 3) := by decide +kernel
theorem dX2_count_32 : decode cX2_count 32 = .ok (.iload_n 1, 1) := by decide +kernel
theorem dX2_count_33 : decode cX2_count 33 = .ok (.ireturn, 1) := by decide +kernel
theorem dX2_isLine_0 : decode cX2_isLine 0 = .ok (.iload_n 1, 1) := by decide +kernel
theorem dX2_isLine_1 : decode cX2_isLine 1 = .ok (.ifCond .lt 16, 3) := by decide +kernel
theorem dX2_isLine_4 : decode cX2_isLine 4 = .ok (.iload_n 1, 1) := by decide +kernel
theorem dX2_isLine_5 : decode cX2_isLine 5 = .ok (.aload_n 0, 1) := by decide +kernel
theorem dX2_isLine_6 : decode cX2_isLine 6 = .ok (.getfield 9, 3) := by decide +kernel
theorem dX2_isLine_9 : decode cX2_isLine 9 = .ok (.arraylength, 1) := by decide +kernel
theorem dX2_isLine_10 : decode cX2_isLine 10 = .ok (.if_icmp .ge 7, 3) := by decide +kernel
theorem dX2_isLine_13 : decode cX2_isLine 13 = .ok (.iconst 1, 1) := by decide +kernel
theorem dX2_isLine_14 : decode cX2_isLine 14 = .ok (.goto 4, 3) := by decide +kernel
theorem dX2_isLine_17 : decode cX2_isLine 17 = .ok (.iconst 0, 1) := by decide +kernel
theorem dX2_isLine_18 : decode cX2_isLine 18 = .ok (.ireturn, 1) := by decide +kernel
theorem dX3_init_0 : decode cX3_init 0 = .ok (.aload_n 0, 1) := by decide +kernel
theorem dX3_init_1 : decode cX3_init 1 = .ok (.invokespecial 1, 3) := by decide +kernel
theorem dX3_init_4 : decode cX3_init 4 = .ok (.aload_n 0, 1) := by decide +kernel
theorem dX3_init_5 : decode cX3_init 5 = .ok (.iload_n 1, 1) := by decide +kernel
theorem dX3_init_6 : decode cX3_init 6 = .ok (.putfield 7, 3) := by decide +kernel
theorem dX3_init_9 : decode cX3_init 9 = .ok (.aload_n 0, 1) := by decide +kernel
theorem dX3_init_10 : decode cX3_init 10 = .ok (.iload_n 2, 1) := by decide +kernel
theorem dX3_init_11 : decode cX3_init 11 = .ok (.putfield 13, 3) := by decide +kernel
theorem dX3_init_14 : decode cX3_init 14 = .ok (.aload_n 0, 1) := by decide +kernel
theorem dX3_init_15 : decode cX3_init 15 = .ok (.iload_n 3, 1) := by decide +kernel
theorem dX3_init_16 : decode cX3_init 16 = .ok (.putfield 16, 3) := by decide +kernel
theorem dX3_init_19 : decode cX3_init 19 = .ok (.aload_n 0, 1) := by decide +kernel
theorem dX3_init_20 : decode cX3_init 20 = .ok (.iload 4, 2) := by decide +kernel
theorem dX3_init_22 : decode cX3_init 22 = .ok (.putfield 19, 3) := by decide +kernel
theorem dX3_init_25 : decode cX3_init 25 = .ok (.return_, 1) := by decide +kernel
theorem dX3_paidBy_0 : decode cX3_paidBy 0 = .ok (.iload_n 1, 1) := by decide +kernel
theorem dX3_paidBy_1 : decode cX3_paidBy 1 = .ok (.aload_n 0, 1) := by decide +kernel
theorem dX3_paidBy_2 : decode cX3_paidBy 2 = .ok (.getfield 7, 3) := by decide +kernel
theorem dX3_paidBy_5 : decode cX3_paidBy 5 = .ok (.if_icmp .ne 8, 3) := by decide +kernel
theorem dX3_paidBy_8 : decode cX3_paidBy 8 = .ok (.aload_n 0, 1) := by decide +kernel
theorem dX3_paidBy_9 : decode cX3_paidBy 9 = .ok (.getfield 13, 3) := by decide +kernel
theorem dX3_paidBy_12 : decode cX3_paidBy 12 = .ok (.ireturn, 1) := by decide +kernel
theorem dX3_paidBy_13 : decode cX3_paidBy 13 = .ok (.iload_n 1, 1) := by decide +kernel
theorem dX3_paidBy_14 : decode cX3_paidBy 14 = .ok (.aload_n 0, 1) := by decide +kernel
theorem dX3_paidBy_15 : decode cX3_paidBy 15 = .ok (.getfield 16, 3) := by decide +kernel
theorem dX3_paidBy_18 : decode cX3_paidBy 18 = .ok (.if_icmp .ne 10, 3) := by decide +kernel
theorem dX3_paidBy_21 : decode cX3_paidBy 21 = .ok (.aload_n 0, 1) := by decide +kernel
theorem dX3_paidBy_22 : decode cX3_paidBy 22 = .ok (.getfield 19, 3) := by decide +kernel
theorem dX3_paidBy_25 : decode cX3_paidBy 25 = .ok (.goto 4, 3) := by decide +kernel
theorem dX3_paidBy_28 : decode cX3_paidBy 28 = .ok (.iconst 0, 1) := by decide +kernel
theorem dX3_paidBy_29 : decode cX3_paidBy 29 = .ok (.ireturn, 1) := by decide +kernel
theorem dX4_init_0 : decode cX4_init 0 = .ok (.aload_n 0, 1) := by decide +kernel
theorem dX4_init_1 : decode cX4_init 1 = .ok (.invokespecial 3, 3) := by decide +kernel
theorem dX4_init_4 : decode cX4_init 4 = .ok (.aload_n 0, 1) := by decide +kernel
theorem dX4_init_5 : decode cX4_init 5 = .ok (.iconst 0, 1) := by decide +kernel
theorem dX4_init_6 : decode cX4_init 6 = .ok (.putfield 9, 3) := by decide +kernel
theorem dX4_init_9 : decode cX4_init 9 = .ok (.aload_n 0, 1) := by decide +kernel
theorem dX4_init_10 : decode cX4_init 10 = .ok (.iconst (-1), 1) := by decide +kernel
theorem dX4_init_11 : decode cX4_init 11 = .ok (.putfield 15, 3) := by decide +kernel
theorem dX4_init_14 : decode cX4_init 14 = .ok (.aload_n 0, 1) := by decide +kernel
theorem dX4_init_15 : decode cX4_init 15 = .ok (.iload_n 1, 1) := by decide +kernel
theorem dX4_init_16 : decode cX4_init 16 = .ok (.putfield 18, 3) := by decide +kernel
theorem dX4_init_19 : decode cX4_init 19 = .ok (.aload_n 0, 1) := by decide +kernel
theorem dX4_init_20 : decode cX4_init 20 = .ok (.iload_n 2, 1) := by decide +kernel
theorem dX4_init_21 : decode cX4_init 21 = .ok (.putfield 21, 3) := by decide +kernel
theorem dX4_init_24 : decode cX4_init 24 = .ok (.aload_n 0, 1) := by decide +kernel
theorem dX4_init_25 : decode cX4_init 25 = .ok (.aload_n 3, 1) := by decide +kernel
theorem dX4_init_26 : decode cX4_init 26 = .ok (.putfield 24, 3) := by decide +kernel
theorem dX4_init_29 : decode cX4_init 29 = .ok (.return_, 1) := by decide +kernel
theorem dX4_owed_0 : decode cX4_owed 0 = .ok (.aload_n 0, 1) := by decide +kernel
theorem dX4_owed_1 : decode cX4_owed 1 = .ok (.getfield 9, 3) := by decide +kernel
theorem dX4_owed_4 : decode cX4_owed 4 = .ok (.iconst 2, 1) := by decide +kernel
theorem dX4_owed_5 : decode cX4_owed 5 = .ok (.if_icmp .ne 10, 3) := by decide +kernel
theorem dX4_owed_8 : decode cX4_owed 8 = .ok (.aload_n 0, 1) := by decide +kernel
theorem dX4_owed_9 : decode cX4_owed 9 = .ok (.getfield 24, 3) := by decide +kernel
theorem dX4_owed_12 : decode cX4_owed 12 = .ok (.ifnonnull 5, 3) := by decide +kernel
theorem dX4_owed_15 : decode cX4_owed 15 = .ok (.iconst 0, 1) := by decide +kernel
theorem dX4_owed_16 : decode cX4_owed 16 = .ok (.ireturn, 1) := by decide +kernel
theorem dX4_owed_17 : decode cX4_owed 17 = .ok (.aload_n 0, 1) := by decide +kernel
theorem dX4_owed_18 : decode cX4_owed 18 = .ok (.getfield 18, 3) := by decide +kernel
theorem dX4_owed_21 : decode cX4_owed 21 = .ok (.aload_n 0, 1) := by decide +kernel
theorem dX4_owed_22 : decode cX4_owed 22 = .ok (.getfield 24, 3) := by decide +kernel
theorem dX4_owed_25 : decode cX4_owed 25 = .ok (.iload_n 1, 1) := by decide +kernel
theorem dX4_owed_26 : decode cX4_owed 26 = .ok (.invokevirtual 28, 3) := by decide +kernel
theorem dX4_owed_29 : decode cX4_owed 29 = .ok (.imul, 1) := by decide +kernel
theorem dX4_owed_30 : decode cX4_owed 30 = .ok (.ireturn, 1) := by decide +kernel
theorem dX5_init_0 : decode cX5_init 0 = .ok (.aload_n 0, 1) := by decide +kernel
theorem dX5_init_1 : decode cX5_init 1 = .ok (.invokespecial 3, 3) := by decide +kernel
theorem dX5_init_4 : decode cX5_init 4 = .ok (.aload_n 0, 1) := by decide +kernel
theorem dX5_init_5 : decode cX5_init 5 = .ok (.new 9, 3) := by decide +kernel
theorem dX5_init_8 : decode cX5_init 8 = .ok (.dup, 1) := by decide +kernel
theorem dX5_init_9 : decode cX5_init 9 = .ok (.invokespecial 11, 3) := by decide +kernel
theorem dX5_init_12 : decode cX5_init 12 = .ok (.putfield 12, 3) := by decide +kernel
theorem dX5_init_15 : decode cX5_init 15 = .ok (.aload_n 0, 1) := by decide +kernel
theorem dX5_init_16 : decode cX5_init 16 = .ok (.iconst (-1), 1) := by decide +kernel
theorem dX5_init_17 : decode cX5_init 17 = .ok (.putfield 18, 3) := by decide +kernel
theorem dX5_init_20 : decode cX5_init 20 = .ok (.aload_n 0, 1) := by decide +kernel
theorem dX5_init_21 : decode cX5_init 21 = .ok (.bipush 10, 2) := by decide +kernel
theorem dX5_init_23 : decode cX5_init 23 = .ok (.putfield 22, 3) := by decide +kernel
theorem dX5_init_26 : decode cX5_init 26 = .ok (.aload_n 0, 1) := by decide +kernel
theorem dX5_init_27 : decode cX5_init 27 = .ok (.bipush 50, 2) := by decide +kernel
theorem dX5_init_29 : decode cX5_init 29 = .ok (.putfield 25, 3) := by decide +kernel
theorem dX5_init_32 : decode cX5_init 32 = .ok (.aload_n 0, 1) := by decide +kernel
theorem dX5_init_33 : decode cX5_init 33 = .ok (.bipush 20, 2) := by decide +kernel
theorem dX5_init_35 : decode cX5_init 35 = .ok (.putfield 28, 3) := by decide +kernel
theorem dX5_init_38 : decode cX5_init 38 = .ok (.return_, 1) := by decide +kernel
theorem dX6_init_0 : decode cX6_init 0 = .ok (.aload_n 0, 1) := by decide +kernel
theorem dX6_init_1 : decode cX6_init 1 = .ok (.invokespecial 3, 3) := by decide +kernel
theorem dX6_init_4 : decode cX6_init 4 = .ok (.aload_n 0, 1) := by decide +kernel
theorem dX6_init_5 : decode cX6_init 5 = .ok (.iconst (-1), 1) := by decide +kernel
theorem dX6_init_6 : decode cX6_init 6 = .ok (.putfield 9, 3) := by decide +kernel
theorem dX6_init_9 : decode cX6_init 9 = .ok (.aload_n 0, 1) := by decide +kernel
theorem dX6_init_10 : decode cX6_init 10 = .ok (.iconst (-1), 1) := by decide +kernel
theorem dX6_init_11 : decode cX6_init 11 = .ok (.putfield 15, 3) := by decide +kernel
theorem dX6_init_14 : decode cX6_init 14 = .ok (.aload_n 0, 1) := by decide +kernel
theorem dX6_init_15 : decode cX6_init 15 = .ok (.sipush 5000, 3) := by decide +kernel
theorem dX6_init_18 : decode cX6_init 18 = .ok (.putfield 18, 3) := by decide +kernel
theorem dX6_init_21 : decode cX6_init 21 = .ok (.aload_n 0, 1) := by decide +kernel
theorem dX6_init_22 : decode cX6_init 22 = .ok (.iload_n 1, 1) := by decide +kernel
theorem dX6_init_23 : decode cX6_init 23 = .ok (.putfield 21, 3) := by decide +kernel
theorem dX6_init_26 : decode cX6_init 26 = .ok (.aload_n 0, 1) := by decide +kernel
theorem dX6_init_27 : decode cX6_init 27 = .ok (.iload_n 2, 1) := by decide +kernel
theorem dX6_init_28 : decode cX6_init 28 = .ok (.putfield 24, 3) := by decide +kernel
theorem dX6_init_31 : decode cX6_init 31 = .ok (.aload_n 0, 1) := by decide +kernel
theorem dX6_init_32 : decode cX6_init 32 = .ok (.iload_n 3, 1) := by decide +kernel
theorem dX6_init_33 : decode cX6_init 33 = .ok (.putfield 27, 3) := by decide +kernel
theorem dX6_init_36 : decode cX6_init 36 = .ok (.aload_n 0, 1) := by decide +kernel
theorem dX6_init_37 : decode cX6_init 37 = .ok (.iload 4, 2) := by decide +kernel
theorem dX6_init_39 : decode cX6_init 39 = .ok (.putfield 30, 3) := by decide +kernel
theorem dX6_init_42 : decode cX6_init 42 = .ok (.return_, 1) := by decide +kernel
theorem dX6_isAbroad_0 : decode cX6_isAbroad 0 = .ok (.aload_n 0, 1) := by decide +kernel
theorem dX6_isAbroad_1 : decode cX6_isAbroad 1 = .ok (.getfield 9, 3) := by decide +kernel
theorem dX6_isAbroad_4 : decode cX6_isAbroad 4 = .ok (.iconst (-1), 1) := by decide +kernel
theorem dX6_isAbroad_5 : decode cX6_isAbroad 5 = .ok (.if_icmp .eq 18, 3) := by decide +kernel
theorem dX6_isAbroad_8 : decode cX6_isAbroad 8 = .ok (.aload_n 0, 1) := by decide +kernel
theorem dX6_isAbroad_9 : decode cX6_isAbroad 9 = .ok (.getfield 9, 3) := by decide +kernel
theorem dX6_isAbroad_12 : decode cX6_isAbroad 12 = .ok (.aload_n 0, 1) := by decide +kernel
theorem dX6_isAbroad_13 : decode cX6_isAbroad 13 = .ok (.getfield 24, 3) := by decide +kernel
theorem dX6_isAbroad_16 : decode cX6_isAbroad 16 = .ok (.if_icmp .eq 7, 3) := by decide +kernel
theorem dX6_isAbroad_19 : decode cX6_isAbroad 19 = .ok (.iconst 1, 1) := by decide +kernel
theorem dX6_isAbroad_20 : decode cX6_isAbroad 20 = .ok (.goto 4, 3) := by decide +kernel
theorem dX6_isAbroad_23 : decode cX6_isAbroad 23 = .ok (.iconst 0, 1) := by decide +kernel
theorem dX6_isAbroad_24 : decode cX6_isAbroad 24 = .ok (.ireturn, 1) := by decide +kernel
theorem dX6_wouldComeAboveCap_0 : decode cX6_wouldComeAboveCap 0 = .ok (.aload_n 0, 1) := by decide +kernel
theorem dX6_wouldComeAboveCap_1 : decode cX6_wouldComeAboveCap 1 = .ok (.invokevirtual 33, 3) := by decide +kernel
theorem dX6_wouldComeAboveCap_4 : decode cX6_wouldComeAboveCap 4 = .ok (.ifCond .eq 27, 3) := by decide +kernel
theorem dX6_wouldComeAboveCap_7 : decode cX6_wouldComeAboveCap 7 = .ok (.aload_n 0, 1) := by decide +kernel
theorem dX6_wouldComeAboveCap_8 : decode cX6_wouldComeAboveCap 8 = .ok (.getfield 37, 3) := by decide +kernel
theorem dX6_wouldComeAboveCap_11 : decode cX6_wouldComeAboveCap 11 = .ok (.ifCond .ne 20, 3) := by decide +kernel
theorem dX6_wouldComeAboveCap_14 : decode cX6_wouldComeAboveCap 14 = .ok (.aload_n 0, 1) := by decide +kernel
theorem dX6_wouldComeAboveCap_15 : decode cX6_wouldComeAboveCap 15 = .ok (.getfield 41, 3) := by decide +kernel
theorem dX6_wouldComeAboveCap_18 : decode cX6_wouldComeAboveCap 18 = .ok (.iload_n 1, 1) := by decide +kernel
theorem dX6_wouldComeAboveCap_19 : decode cX6_wouldComeAboveCap 19 = .ok (.iadd, 1) := by decide +kernel
theorem dX6_wouldComeAboveCap_20 : decode cX6_wouldComeAboveCap 20 = .ok (.aload_n 0, 1) := by decide +kernel
theorem dX6_wouldComeAboveCap_21 : decode cX6_wouldComeAboveCap 21 = .ok (.getfield 18, 3) := by decide +kernel
theorem dX6_wouldComeAboveCap_24 : decode cX6_wouldComeAboveCap 24 = .ok (.if_icmp .le 7, 3) := by decide +kernel
theorem dX6_wouldComeAboveCap_27 : decode cX6_wouldComeAboveCap 27 = .ok (.iconst 1, 1) := by decide +kernel
theorem dX6_wouldComeAboveCap_28 : decode cX6_wouldComeAboveCap 28 = .ok (.goto 4, 3) := by decide +kernel
theorem dX6_wouldComeAboveCap_31 : decode cX6_wouldComeAboveCap 31 = .ok (.iconst 0, 1) := by decide +kernel
theorem dX6_wouldComeAboveCap_32 : decode cX6_wouldComeAboveCap 32 = .ok (.ireturn, 1) := by decide +kernel
theorem dX6_isWarned_0 : decode cX6_isWarned 0 = .ok (.aload_n 0, 1) := by decide +kernel
theorem dX6_isWarned_1 : decode cX6_isWarned 1 = .ok (.getfield 41, 3) := by decide +kernel
theorem dX6_isWarned_4 : decode cX6_isWarned 4 = .ok (.i2l, 1) := by decide +kernel
theorem dX6_isWarned_5 : decode cX6_isWarned 5 = .ok (.ldc2_w 44, 3) := by decide +kernel
theorem dX6_isWarned_8 : decode cX6_isWarned 8 = .ok (.lmul, 1) := by decide +kernel
theorem dX6_isWarned_9 : decode cX6_isWarned 9 = .ok (.aload_n 0, 1) := by decide +kernel
theorem dX6_isWarned_10 : decode cX6_isWarned 10 = .ok (.getfield 18, 3) := by decide +kernel
theorem dX6_isWarned_13 : decode cX6_isWarned 13 = .ok (.i2l, 1) := by decide +kernel
theorem dX6_isWarned_14 : decode cX6_isWarned 14 = .ok (.ldc2_w 46, 3) := by decide +kernel
theorem dX6_isWarned_17 : decode cX6_isWarned 17 = .ok (.lmul, 1) := by decide +kernel
theorem dX6_isWarned_18 : decode cX6_isWarned 18 = .ok (.lcmp, 1) := by decide +kernel
theorem dX6_isWarned_19 : decode cX6_isWarned 19 = .ok (.ifCond .lt 7, 3) := by decide +kernel
theorem dX6_isWarned_22 : decode cX6_isWarned 22 = .ok (.iconst 1, 1) := by decide +kernel
theorem dX6_isWarned_23 : decode cX6_isWarned 23 = .ok (.goto 4, 3) := by decide +kernel
theorem dX6_isWarned_26 : decode cX6_isWarned 26 = .ok (.iconst 0, 1) := by decide +kernel
theorem dX6_isWarned_27 : decode cX6_isWarned 27 = .ok (.ireturn, 1) := by decide +kernel
theorem dX7_init_0 : decode cX7_init 0 = .ok (.aload_n 0, 1) := by decide +kernel
theorem dX7_init_1 : decode cX7_init 1 = .ok (.invokespecial 1, 3) := by decide +kernel
theorem dX7_init_4 : decode cX7_init 4 = .ok (.aload_n 0, 1) := by decide +kernel
theorem dX7_init_5 : decode cX7_init 5 = .ok (.bipush 8, 2) := by decide +kernel
theorem dX7_init_7 : decode cX7_init 7 = .ok (.newarray .int, 2) := by decide +kernel
theorem dX7_init_9 : decode cX7_init 9 = .ok (.putfield 9, 3) := by decide +kernel
theorem dX7_init_12 : decode cX7_init 12 = .ok (.aload_n 0, 1) := by decide +kernel
theorem dX7_init_13 : decode cX7_init 13 = .ok (.bipush 6, 2) := by decide +kernel
theorem dX7_init_15 : decode cX7_init 15 = .ok (.anewarray 13, 3) := by decide +kernel
theorem dX7_init_18 : decode cX7_init 18 = .ok (.putfield 15, 3) := by decide +kernel
theorem dX7_init_21 : decode cX7_init 21 = .ok (.aload_n 0, 1) := by decide +kernel
theorem dX7_init_22 : decode cX7_init 22 = .ok (.bipush 36, 2) := by decide +kernel
theorem dX7_init_24 : decode cX7_init 24 = .ok (.anewarray 19, 3) := by decide +kernel
theorem dX7_init_27 : decode cX7_init 27 = .ok (.putfield 21, 3) := by decide +kernel
theorem dX7_init_30 : decode cX7_init 30 = .ok (.aload_n 0, 1) := by decide +kernel
theorem dX7_init_31 : decode cX7_init 31 = .ok (.new 25, 3) := by decide +kernel
theorem dX7_init_34 : decode cX7_init 34 = .ok (.dup, 1) := by decide +kernel
theorem dX7_init_35 : decode cX7_init 35 = .ok (.invokespecial 27, 3) := by decide +kernel
theorem dX7_init_38 : decode cX7_init 38 = .ok (.putfield 28, 3) := by decide +kernel
theorem dX7_init_41 : decode cX7_init 41 = .ok (.aload_n 0, 1) := by decide +kernel
theorem dX7_init_42 : decode cX7_init 42 = .ok (.new 25, 3) := by decide +kernel
theorem dX7_init_45 : decode cX7_init 45 = .ok (.dup, 1) := by decide +kernel
theorem dX7_init_46 : decode cX7_init 46 = .ok (.invokespecial 27, 3) := by decide +kernel
theorem dX7_init_49 : decode cX7_init 49 = .ok (.putfield 32, 3) := by decide +kernel
theorem dX7_init_52 : decode cX7_init 52 = .ok (.aload_n 0, 1) := by decide +kernel
theorem dX7_init_53 : decode cX7_init 53 = .ok (.new 25, 3) := by decide +kernel
theorem dX7_init_56 : decode cX7_init 56 = .ok (.dup, 1) := by decide +kernel
theorem dX7_init_57 : decode cX7_init 57 = .ok (.invokespecial 27, 3) := by decide +kernel
theorem dX7_init_60 : decode cX7_init 60 = .ok (.putfield 35, 3) := by decide +kernel
theorem dX7_init_63 : decode cX7_init 63 = .ok (.iconst 0, 1) := by decide +kernel
theorem dX7_init_64 : decode cX7_init 64 = .ok (.istore_n 1, 1) := by decide +kernel
theorem dX7_init_65 : decode cX7_init 65 = .ok (.iload_n 1, 1) := by decide +kernel
theorem dX7_init_66 : decode cX7_init 66 = .ok (.aload_n 0, 1) := by decide +kernel
theorem dX7_init_67 : decode cX7_init 67 = .ok (.getfield 15, 3) := by decide +kernel
theorem dX7_init_70 : decode cX7_init 70 = .ok (.arraylength, 1) := by decide +kernel
theorem dX7_init_71 : decode cX7_init 71 = .ok (.if_icmp .ge 22, 3) := by decide +kernel
theorem dX7_init_74 : decode cX7_init 74 = .ok (.aload_n 0, 1) := by decide +kernel
theorem dX7_init_75 : decode cX7_init 75 = .ok (.getfield 15, 3) := by decide +kernel
theorem dX7_init_78 : decode cX7_init 78 = .ok (.iload_n 1, 1) := by decide +kernel
theorem dX7_init_79 : decode cX7_init 79 = .ok (.new 13, 3) := by decide +kernel
theorem dX7_init_82 : decode cX7_init 82 = .ok (.dup, 1) := by decide +kernel
theorem dX7_init_83 : decode cX7_init 83 = .ok (.invokespecial 38, 3) := by decide +kernel
theorem dX7_init_86 : decode cX7_init 86 = .ok (.aastore, 1) := by decide +kernel
theorem dX7_init_87 : decode cX7_init 87 = .ok (.iinc 1 1, 3) := by decide +kernel
theorem dX7_init_90 : decode cX7_init 90 = .ok (.goto (-25), 3) := by decide +kernel
theorem dX7_init_93 : decode cX7_init 93 = .ok (.iconst 0, 1) := by decide +kernel
theorem dX7_init_94 : decode cX7_init 94 = .ok (.istore_n 1, 1) := by decide +kernel
theorem dX7_init_95 : decode cX7_init 95 = .ok (.iload_n 1, 1) := by decide +kernel
theorem dX7_init_96 : decode cX7_init 96 = .ok (.aload_n 0, 1) := by decide +kernel
theorem dX7_init_97 : decode cX7_init 97 = .ok (.getfield 21, 3) := by decide +kernel
theorem dX7_init_100 : decode cX7_init 100 = .ok (.arraylength, 1) := by decide +kernel
theorem dX7_init_101 : decode cX7_init 101 = .ok (.if_icmp .ge 22, 3) := by decide +kernel
theorem dX7_init_104 : decode cX7_init 104 = .ok (.aload_n 0, 1) := by decide +kernel
theorem dX7_init_105 : decode cX7_init 105 = .ok (.getfield 21, 3) := by decide +kernel
theorem dX7_init_108 : decode cX7_init 108 = .ok (.iload_n 1, 1) := by decide +kernel
theorem dX7_init_109 : decode cX7_init 109 = .ok (.new 19, 3) := by decide +kernel
theorem dX7_init_112 : decode cX7_init 112 = .ok (.dup, 1) := by decide +kernel
theorem dX7_init_113 : decode cX7_init 113 = .ok (.invokespecial 39, 3) := by decide +kernel
theorem dX7_init_116 : decode cX7_init 116 = .ok (.aastore, 1) := by decide +kernel
theorem dX7_init_117 : decode cX7_init 117 = .ok (.iinc 1 1, 3) := by decide +kernel
theorem dX7_init_120 : decode cX7_init 120 = .ok (.goto (-25), 3) := by decide +kernel
theorem dX7_init_123 : decode cX7_init 123 = .ok (.return_, 1) := by decide +kernel
theorem dX7_reach_0 : decode cX7_reach 0 = .ok (.aload_n 0, 1) := by decide +kernel
theorem dX7_reach_1 : decode cX7_reach 1 = .ok (.iload_n 1, 1) := by decide +kernel
theorem dX7_reach_2 : decode cX7_reach 2 = .ok (.invokevirtual 40, 3) := by decide +kernel
theorem dX7_reach_5 : decode cX7_reach 5 = .ok (.istore_n 3, 1) := by decide +kernel
theorem dX7_reach_6 : decode cX7_reach 6 = .ok (.iload_n 2, 1) := by decide +kernel
theorem dX7_reach_7 : decode cX7_reach 7 = .ok (.iconst 0, 1) := by decide +kernel
theorem dX7_reach_8 : decode cX7_reach 8 = .ok (.bipush 63, 2) := by decide +kernel
theorem dX7_reach_10 : decode cX7_reach 10 = .ok (.invokestatic 44, 3) := by decide +kernel
theorem dX7_reach_13 : decode cX7_reach 13 = .ok (.aload_n 0, 1) := by decide +kernel
theorem dX7_reach_14 : decode cX7_reach 14 = .ok (.getfield 9, 3) := by decide +kernel
theorem dX7_reach_17 : decode cX7_reach 17 = .ok (.iload_n 1, 1) := by decide +kernel
theorem dX7_reach_18 : decode cX7_reach 18 = .ok (.iload_n 2, 1) := by decide +kernel
theorem dX7_reach_19 : decode cX7_reach 19 = .ok (.iastore, 1) := by decide +kernel
theorem dX7_reach_20 : decode cX7_reach 20 = .ok (.iconst 0, 1) := by decide +kernel
theorem dX7_reach_21 : decode cX7_reach 21 = .ok (.istore 4, 2) := by decide +kernel
theorem dX7_reach_23 : decode cX7_reach 23 = .ok (.iload 4, 2) := by decide +kernel
theorem dX7_reach_25 : decode cX7_reach 25 = .ok (.aload_n 0, 1) := by decide +kernel
theorem dX7_reach_26 : decode cX7_reach 26 = .ok (.getfield 32, 3) := by decide +kernel
theorem dX7_reach_29 : decode cX7_reach 29 = .ok (.invokevirtual 48, 3) := by decide +kernel
theorem dX7_reach_32 : decode cX7_reach 32 = .ok (.if_icmp .ge 38, 3) := by decide +kernel
theorem dX7_reach_35 : decode cX7_reach 35 = .ok (.aload_n 0, 1) := by decide +kernel
theorem dX7_reach_36 : decode cX7_reach 36 = .ok (.getfield 32, 3) := by decide +kernel
theorem dX7_reach_39 : decode cX7_reach 39 = .ok (.iload 4, 2) := by decide +kernel
theorem dX7_reach_41 : decode cX7_reach 41 = .ok (.invokevirtual 52, 3) := by decide +kernel
theorem dX7_reach_44 : decode cX7_reach 44 = .ok (.checkcast 56, 3) := by decide +kernel
theorem dX7_reach_47 : decode cX7_reach 47 = .ok (.astore 5, 2) := by decide +kernel
theorem dX7_reach_49 : decode cX7_reach 49 = .ok (.aload 5, 2) := by decide +kernel
theorem dX7_reach_51 : decode cX7_reach 51 = .ok (.getfield 58, 3) := by decide +kernel
theorem dX7_reach_54 : decode cX7_reach 54 = .ok (.iload_n 1, 1) := by decide +kernel
theorem dX7_reach_55 : decode cX7_reach 55 = .ok (.if_icmp .ne 9, 3) := by decide +kernel
theorem dX7_reach_58 : decode cX7_reach 58 = .ok (.aload_n 0, 1) := by decide +kernel
theorem dX7_reach_59 : decode cX7_reach 59 = .ok (.aload 5, 2) := by decide +kernel
theorem dX7_reach_61 : decode cX7_reach 61 = .ok (.invokevirtual 62, 3) := by decide +kernel
theorem dX7_reach_64 : decode cX7_reach 64 = .ok (.iinc 4 1, 3) := by decide +kernel
theorem dX7_reach_67 : decode cX7_reach 67 = .ok (.goto (-44), 3) := by decide +kernel
theorem dX7_reach_70 : decode cX7_reach 70 = .ok (.iload_n 3, 1) := by decide +kernel
theorem dX7_reach_71 : decode cX7_reach 71 = .ok (.ireturn, 1) := by decide +kernel
theorem dX7_dead_0 : decode cX7_dead 0 = .ok (.aload_n 0, 1) := by decide +kernel
theorem dX7_dead_1 : decode cX7_dead 1 = .ok (.iload_n 1, 1) := by decide +kernel
theorem dX7_dead_2 : decode cX7_dead 2 = .ok (.invokevirtual 66, 3) := by decide +kernel
theorem dX7_dead_5 : decode cX7_dead 5 = .ok (.astore_n 3, 1) := by decide +kernel
theorem dX7_dead_6 : decode cX7_dead 6 = .ok (.aload_n 3, 1) := by decide +kernel
theorem dX7_dead_7 : decode cX7_dead 7 = .ok (.getfield 70, 3) := by decide +kernel
theorem dX7_dead_10 : decode cX7_dead 10 = .ok (.istore 4, 2) := by decide +kernel
theorem dX7_dead_12 : decode cX7_dead 12 = .ok (.aload_n 3, 1) := by decide +kernel
theorem dX7_dead_13 : decode cX7_dead 13 = .ok (.iload_n 2, 1) := by decide +kernel
theorem dX7_dead_14 : decode cX7_dead 14 = .ok (.putfield 70, 3) := by decide +kernel
theorem dX7_dead_17 : decode cX7_dead 17 = .ok (.iload_n 2, 1) := by decide +kernel
theorem dX7_dead_18 : decode cX7_dead 18 = .ok (.ifCond .eq 15, 3) := by decide +kernel
theorem dX7_dead_21 : decode cX7_dead 21 = .ok (.aload_n 3, 1) := by decide +kernel
theorem dX7_dead_22 : decode cX7_dead 22 = .ok (.getfield 74, 3) := by decide +kernel
theorem dX7_dead_25 : decode cX7_dead 25 = .ok (.invokevirtual 78, 3) := by decide +kernel
theorem dX7_dead_28 : decode cX7_dead 28 = .ok (.aload_n 0, 1) := by decide +kernel
theorem dX7_dead_29 : decode cX7_dead 29 = .ok (.iload_n 1, 1) := by decide +kernel
theorem dX7_dead_30 : decode cX7_dead 30 = .ok (.invokevirtual 83, 3) := by decide +kernel
theorem dX7_dead_33 : decode cX7_dead 33 = .ok (.iload 4, 2) := by decide +kernel
theorem dX7_dead_35 : decode cX7_dead 35 = .ok (.ireturn, 1) := by decide +kernel
theorem dX7_agree_0 : decode cX7_agree 0 = .ok (.aload_n 0, 1) := by decide +kernel
theorem dX7_agree_1 : decode cX7_agree 1 = .ok (.iload_n 1, 1) := by decide +kernel
theorem dX7_agree_2 : decode cX7_agree 2 = .ok (.invokevirtual 87, 3) := by decide +kernel
theorem dX7_agree_5 : decode cX7_agree 5 = .ok (.aload_n 0, 1) := by decide +kernel
theorem dX7_agree_6 : decode cX7_agree 6 = .ok (.iload_n 2, 1) := by decide +kernel
theorem dX7_agree_7 : decode cX7_agree 7 = .ok (.invokevirtual 87, 3) := by decide +kernel
theorem dX7_agree_10 : decode cX7_agree 10 = .ok (.iload_n 1, 1) := by decide +kernel
theorem dX7_agree_11 : decode cX7_agree 11 = .ok (.iload_n 2, 1) := by decide +kernel
theorem dX7_agree_12 : decode cX7_agree 12 = .ok (.invokestatic 90, 3) := by decide +kernel
theorem dX7_agree_15 : decode cX7_agree 15 = .ok (.iload_n 3, 1) := by decide +kernel
theorem dX7_agree_16 : decode cX7_agree 16 = .ok (.iconst 0, 1) := by decide +kernel
theorem dX7_agree_17 : decode cX7_agree 17 = .ok (.ldc 94, 2) := by decide +kernel
theorem dX7_agree_19 : decode cX7_agree 19 = .ok (.invokestatic 44, 3) := by decide +kernel
theorem dX7_agree_22 : decode cX7_agree 22 = .ok (.iload 4, 2) := by decide +kernel
theorem dX7_agree_24 : decode cX7_agree 24 = .ok (.iload_n 3, 1) := by decide +kernel
theorem dX7_agree_25 : decode cX7_agree 25 = .ok (.iconst 1, 1) := by decide +kernel
theorem dX7_agree_26 : decode cX7_agree 26 = .ok (.iadd, 1) := by decide +kernel
theorem dX7_agree_27 : decode cX7_agree 27 = .ok (.ldc 95, 2) := by decide +kernel
theorem dX7_agree_29 : decode cX7_agree 29 = .ok (.invokestatic 44, 3) := by decide +kernel
theorem dX7_agree_32 : decode cX7_agree 32 = .ok (.iload 5, 2) := by decide +kernel
theorem dX7_agree_34 : decode cX7_agree 34 = .ok (.iconst 0, 1) := by decide +kernel
theorem dX7_agree_35 : decode cX7_agree 35 = .ok (.bipush 99, 2) := by decide +kernel
theorem dX7_agree_37 : decode cX7_agree 37 = .ok (.invokestatic 44, 3) := by decide +kernel
theorem dX7_agree_40 : decode cX7_agree 40 = .ok (.iload 6, 2) := by decide +kernel
theorem dX7_agree_42 : decode cX7_agree 42 = .ok (.iconst 0, 1) := by decide +kernel
theorem dX7_agree_43 : decode cX7_agree 43 = .ok (.sipush 9999, 3) := by decide +kernel
theorem dX7_agree_46 : decode cX7_agree 46 = .ok (.invokestatic 44, 3) := by decide +kernel
theorem dX7_agree_49 : decode cX7_agree 49 = .ok (.iload 7, 2) := by decide +kernel
theorem dX7_agree_51 : decode cX7_agree 51 = .ok (.iconst 0, 1) := by decide +kernel
theorem dX7_agree_52 : decode cX7_agree 52 = .ok (.iload 5, 2) := by decide +kernel
theorem dX7_agree_54 : decode cX7_agree 54 = .ok (.invokestatic 44, 3) := by decide +kernel
theorem dX7_agree_57 : decode cX7_agree 57 = .ok (.aload_n 0, 1) := by decide +kernel
theorem dX7_agree_58 : decode cX7_agree 58 = .ok (.getfield 28, 3) := by decide +kernel
theorem dX7_agree_61 : decode cX7_agree 61 = .ok (.invokevirtual 48, 3) := by decide +kernel
theorem dX7_agree_64 : decode cX7_agree 64 = .ok (.bipush 30, 2) := by decide +kernel
theorem dX7_agree_66 : decode cX7_agree 66 = .ok (.invokestatic 96, 3) := by decide +kernel
theorem dX7_agree_69 : decode cX7_agree 69 = .ok (.aload_n 0, 1) := by decide +kernel
theorem dX7_agree_70 : decode cX7_agree 70 = .ok (.getfield 28, 3) := by decide +kernel
theorem dX7_agree_73 : decode cX7_agree 73 = .ok (.new 99, 3) := by decide +kernel
theorem dX7_agree_76 : decode cX7_agree 76 = .ok (.dup, 1) := by decide +kernel
theorem dX7_agree_77 : decode cX7_agree 77 = .ok (.iload_n 1, 1) := by decide +kernel
theorem dX7_agree_78 : decode cX7_agree 78 = .ok (.iload_n 2, 1) := by decide +kernel
theorem dX7_agree_79 : decode cX7_agree 79 = .ok (.iload_n 3, 1) := by decide +kernel
theorem dX7_agree_80 : decode cX7_agree 80 = .ok (.iload 4, 2) := by decide +kernel
theorem dX7_agree_82 : decode cX7_agree 82 = .ok (.iload 5, 2) := by decide +kernel
theorem dX7_agree_84 : decode cX7_agree 84 = .ok (.iload 6, 2) := by decide +kernel
theorem dX7_agree_86 : decode cX7_agree 86 = .ok (.iload 7, 2) := by decide +kernel
theorem dX7_agree_88 : decode cX7_agree 88 = .ok (.invokespecial 101, 3) := by decide +kernel
theorem dX7_agree_91 : decode cX7_agree 91 = .ok (.invokevirtual 104, 3) := by decide +kernel
theorem dX7_agree_94 : decode cX7_agree 94 = .ok (.pop, 1) := by decide +kernel
theorem dX7_agree_95 : decode cX7_agree 95 = .ok (.aload_n 0, 1) := by decide +kernel
theorem dX7_agree_96 : decode cX7_agree 96 = .ok (.getfield 28, 3) := by decide +kernel
theorem dX7_agree_99 : decode cX7_agree 99 = .ok (.invokevirtual 48, 3) := by decide +kernel
theorem dX7_agree_102 : decode cX7_agree 102 = .ok (.ireturn, 1) := by decide +kernel
theorem dX7_steer_0 : decode cX7_steer 0 = .ok (.aload_n 0, 1) := by decide +kernel
theorem dX7_steer_1 : decode cX7_steer 1 = .ok (.iload_n 1, 1) := by decide +kernel
theorem dX7_steer_2 : decode cX7_steer 2 = .ok (.invokevirtual 66, 3) := by decide +kernel
theorem dX7_steer_5 : decode cX7_steer 5 = .ok (.astore_n 3, 1) := by decide +kernel
theorem dX7_steer_6 : decode cX7_steer 6 = .ok (.iload_n 2, 1) := by decide +kernel
theorem dX7_steer_7 : decode cX7_steer 7 = .ok (.iconst (-1), 1) := by decide +kernel
theorem dX7_steer_8 : decode cX7_steer 8 = .ok (.if_icmp .eq 8, 3) := by decide +kernel
theorem dX7_steer_11 : decode cX7_steer 11 = .ok (.aload_n 0, 1) := by decide +kernel
theorem dX7_steer_12 : decode cX7_steer 12 = .ok (.iload_n 2, 1) := by decide +kernel
theorem dX7_steer_13 : decode cX7_steer 13 = .ok (.invokevirtual 87, 3) := by decide +kernel
theorem dX7_steer_16 : decode cX7_steer 16 = .ok (.iload_n 1, 1) := by decide +kernel
theorem dX7_steer_17 : decode cX7_steer 17 = .ok (.iload_n 2, 1) := by decide +kernel
theorem dX7_steer_18 : decode cX7_steer 18 = .ok (.invokestatic 90, 3) := by decide +kernel
theorem dX7_steer_21 : decode cX7_steer 21 = .ok (.aload_n 3, 1) := by decide +kernel
theorem dX7_steer_22 : decode cX7_steer 22 = .ok (.getfield 108, 3) := by decide +kernel
theorem dX7_steer_25 : decode cX7_steer 25 = .ok (.istore 4, 2) := by decide +kernel
theorem dX7_steer_27 : decode cX7_steer 27 = .ok (.aload_n 3, 1) := by decide +kernel
theorem dX7_steer_28 : decode cX7_steer 28 = .ok (.iload_n 2, 1) := by decide +kernel
theorem dX7_steer_29 : decode cX7_steer 29 = .ok (.putfield 108, 3) := by decide +kernel
theorem dX7_steer_32 : decode cX7_steer 32 = .ok (.iload 4, 2) := by decide +kernel
theorem dX7_steer_34 : decode cX7_steer 34 = .ok (.ireturn, 1) := by decide +kernel
theorem dX7_prices_0 : decode cX7_prices 0 = .ok (.aload_n 0, 1) := by decide +kernel
theorem dX7_prices_1 : decode cX7_prices 1 = .ok (.iload_n 1, 1) := by decide +kernel
theorem dX7_prices_2 : decode cX7_prices 2 = .ok (.invokevirtual 66, 3) := by decide +kernel
theorem dX7_prices_5 : decode cX7_prices 5 = .ok (.astore 5, 2) := by decide +kernel
theorem dX7_prices_7 : decode cX7_prices 7 = .ok (.iload_n 2, 1) := by decide +kernel
theorem dX7_prices_8 : decode cX7_prices 8 = .ok (.iconst 0, 1) := by decide +kernel
theorem dX7_prices_9 : decode cX7_prices 9 = .ok (.bipush 99, 2) := by decide +kernel
theorem dX7_prices_11 : decode cX7_prices 11 = .ok (.invokestatic 44, 3) := by decide +kernel
theorem dX7_prices_14 : decode cX7_prices 14 = .ok (.iload_n 3, 1) := by decide +kernel
theorem dX7_prices_15 : decode cX7_prices 15 = .ok (.iconst 0, 1) := by decide +kernel
theorem dX7_prices_16 : decode cX7_prices 16 = .ok (.bipush 99, 2) := by decide +kernel
theorem dX7_prices_18 : decode cX7_prices 18 = .ok (.invokestatic 44, 3) := by decide +kernel
theorem dX7_prices_21 : decode cX7_prices 21 = .ok (.iload 4, 2) := by decide +kernel
theorem dX7_prices_23 : decode cX7_prices 23 = .ok (.iconst 0, 1) := by decide +kernel
theorem dX7_prices_24 : decode cX7_prices 24 = .ok (.bipush 99, 2) := by decide +kernel
theorem dX7_prices_26 : decode cX7_prices 26 = .ok (.invokestatic 44, 3) := by decide +kernel
theorem dX7_prices_29 : decode cX7_prices 29 = .ok (.aload 5, 2) := by decide +kernel
theorem dX7_prices_31 : decode cX7_prices 31 = .ok (.iload_n 2, 1) := by decide +kernel
theorem dX7_prices_32 : decode cX7_prices 32 = .ok (.putfield 111, 3) := by decide +kernel
theorem dX7_prices_35 : decode cX7_prices 35 = .ok (.aload 5, 2) := by decide +kernel
theorem dX7_prices_37 : decode cX7_prices 37 = .ok (.iload_n 3, 1) := by decide +kernel
theorem dX7_prices_38 : decode cX7_prices 38 = .ok (.putfield 114, 3) := by decide +kernel
theorem dX7_prices_41 : decode cX7_prices 41 = .ok (.aload 5, 2) := by decide +kernel
theorem dX7_prices_43 : decode cX7_prices 43 = .ok (.iload 4, 2) := by decide +kernel
theorem dX7_prices_45 : decode cX7_prices 45 = .ok (.putfield 117, 3) := by decide +kernel
theorem dX7_prices_48 : decode cX7_prices 48 = .ok (.return_, 1) := by decide +kernel
theorem dX7_lose_0 : decode cX7_lose 0 = .ok (.aload_n 0, 1) := by decide +kernel
theorem dX7_lose_1 : decode cX7_lose 1 = .ok (.iload_n 1, 1) := by decide +kernel
theorem dX7_lose_2 : decode cX7_lose 2 = .ok (.invokevirtual 66, 3) := by decide +kernel
theorem dX7_lose_5 : decode cX7_lose 5 = .ok (.astore_n 3, 1) := by decide +kernel
theorem dX7_lose_6 : decode cX7_lose 6 = .ok (.iload_n 2, 1) := by decide +kernel
theorem dX7_lose_7 : decode cX7_lose 7 = .ok (.iconst 0, 1) := by decide +kernel
theorem dX7_lose_8 : decode cX7_lose 8 = .ok (.bipush 9, 2) := by decide +kernel
theorem dX7_lose_10 : decode cX7_lose 10 = .ok (.invokestatic 44, 3) := by decide +kernel
theorem dX7_lose_13 : decode cX7_lose 13 = .ok (.aload_n 3, 1) := by decide +kernel
theorem dX7_lose_14 : decode cX7_lose 14 = .ok (.getfield 120, 3) := by decide +kernel
theorem dX7_lose_17 : decode cX7_lose 17 = .ok (.istore 4, 2) := by decide +kernel
theorem dX7_lose_19 : decode cX7_lose 19 = .ok (.aload_n 3, 1) := by decide +kernel
theorem dX7_lose_20 : decode cX7_lose 20 = .ok (.iload_n 2, 1) := by decide +kernel
theorem dX7_lose_21 : decode cX7_lose 21 = .ok (.putfield 120, 3) := by decide +kernel
theorem dX7_lose_24 : decode cX7_lose 24 = .ok (.iload 4, 2) := by decide +kernel
theorem dX7_lose_26 : decode cX7_lose 26 = .ok (.ireturn, 1) := by decide +kernel
theorem dX7_crash_0 : decode cX7_crash 0 = .ok (.aload_n 0, 1) := by decide +kernel
theorem dX7_crash_1 : decode cX7_crash 1 = .ok (.iload_n 1, 1) := by decide +kernel
theorem dX7_crash_2 : decode cX7_crash 2 = .ok (.invokevirtual 66, 3) := by decide +kernel
theorem dX7_crash_5 : decode cX7_crash 5 = .ok (.getfield 74, 3) := by decide +kernel
theorem dX7_crash_8 : decode cX7_crash 8 = .ok (.astore_n 2, 1) := by decide +kernel
theorem dX7_crash_9 : decode cX7_crash 9 = .ok (.aload_n 2, 1) := by decide +kernel
theorem dX7_crash_10 : decode cX7_crash 10 = .ok (.invokevirtual 123, 3) := by decide +kernel
theorem dX7_crash_13 : decode cX7_crash 13 = .ok (.istore_n 3, 1) := by decide +kernel
theorem dX7_crash_14 : decode cX7_crash 14 = .ok (.aload_n 2, 1) := by decide +kernel
theorem dX7_crash_15 : decode cX7_crash 15 = .ok (.invokevirtual 78, 3) := by decide +kernel
theorem dX7_crash_18 : decode cX7_crash 18 = .ok (.iload_n 3, 1) := by decide +kernel
theorem dX7_crash_19 : decode cX7_crash 19 = .ok (.ireturn, 1) := by decide +kernel
theorem dX7_subscriber_0 : decode cX7_subscriber 0 = .ok (.aload_n 0, 1) := by decide +kernel
theorem dX7_subscriber_1 : decode cX7_subscriber 1 = .ok (.iload_n 1, 1) := by decide +kernel
theorem dX7_subscriber_2 : decode cX7_subscriber 2 = .ok (.invokevirtual 87, 3) := by decide +kernel
theorem dX7_subscriber_5 : decode cX7_subscriber 5 = .ok (.aload_n 0, 1) := by decide +kernel
theorem dX7_subscriber_6 : decode cX7_subscriber 6 = .ok (.iload_n 2, 1) := by decide +kernel
theorem dX7_subscriber_7 : decode cX7_subscriber 7 = .ok (.invokevirtual 126, 3) := by decide +kernel
theorem dX7_subscriber_10 : decode cX7_subscriber 10 = .ok (.iload_n 3, 1) := by decide +kernel
theorem dX7_subscriber_11 : decode cX7_subscriber 11 = .ok (.iconst 0, 1) := by decide +kernel
theorem dX7_subscriber_12 : decode cX7_subscriber 12 = .ok (.bipush 63, 2) := by decide +kernel
theorem dX7_subscriber_14 : decode cX7_subscriber 14 = .ok (.invokestatic 44, 3) := by decide +kernel
theorem dX7_subscriber_17 : decode cX7_subscriber 17 = .ok (.aload_n 0, 1) := by decide +kernel
theorem dX7_subscriber_18 : decode cX7_subscriber 18 = .ok (.getfield 32, 3) := by decide +kernel
theorem dX7_subscriber_21 : decode cX7_subscriber 21 = .ok (.invokevirtual 48, 3) := by decide +kernel
theorem dX7_subscriber_24 : decode cX7_subscriber 24 = .ok (.bipush 10, 2) := by decide +kernel
theorem dX7_subscriber_26 : decode cX7_subscriber 26 = .ok (.invokestatic 96, 3) := by decide +kernel
theorem dX7_subscriber_29 : decode cX7_subscriber 29 = .ok (.new 56, 3) := by decide +kernel
theorem dX7_subscriber_32 : decode cX7_subscriber 32 = .ok (.dup, 1) := by decide +kernel
theorem dX7_subscriber_33 : decode cX7_subscriber 33 = .ok (.aload_n 0, 1) := by decide +kernel
theorem dX7_subscriber_34 : decode cX7_subscriber 34 = .ok (.getfield 32, 3) := by decide +kernel
theorem dX7_subscriber_37 : decode cX7_subscriber 37 = .ok (.invokevirtual 48, 3) := by decide +kernel
theorem dX7_subscriber_40 : decode cX7_subscriber 40 = .ok (.iload_n 1, 1) := by decide +kernel
theorem dX7_subscriber_41 : decode cX7_subscriber 41 = .ok (.iload_n 2, 1) := by decide +kernel
theorem dX7_subscriber_42 : decode cX7_subscriber 42 = .ok (.iload_n 3, 1) := by decide +kernel
theorem dX7_subscriber_43 : decode cX7_subscriber 43 = .ok (.invokespecial 129, 3) := by decide +kernel
theorem dX7_subscriber_46 : decode cX7_subscriber 46 = .ok (.astore 4, 2) := by decide +kernel
theorem dX7_subscriber_48 : decode cX7_subscriber 48 = .ok (.aload_n 0, 1) := by decide +kernel
theorem dX7_subscriber_49 : decode cX7_subscriber 49 = .ok (.getfield 32, 3) := by decide +kernel
theorem dX7_subscriber_52 : decode cX7_subscriber 52 = .ok (.aload 4, 2) := by decide +kernel
theorem dX7_subscriber_54 : decode cX7_subscriber 54 = .ok (.invokevirtual 104, 3) := by decide +kernel
theorem dX7_subscriber_57 : decode cX7_subscriber 57 = .ok (.pop, 1) := by decide +kernel
theorem dX7_subscriber_58 : decode cX7_subscriber 58 = .ok (.aload 4, 2) := by decide +kernel
theorem dX7_subscriber_60 : decode cX7_subscriber 60 = .ok (.getfield 132, 3) := by decide +kernel
theorem dX7_subscriber_63 : decode cX7_subscriber 63 = .ok (.ireturn, 1) := by decide +kernel
theorem dX7_move_0 : decode cX7_move 0 = .ok (.aload_n 0, 1) := by decide +kernel
theorem dX7_move_1 : decode cX7_move 1 = .ok (.iload_n 1, 1) := by decide +kernel
theorem dX7_move_2 : decode cX7_move 2 = .ok (.invokevirtual 135, 3) := by decide +kernel
theorem dX7_move_5 : decode cX7_move 5 = .ok (.astore_n 3, 1) := by decide +kernel
theorem dX7_move_6 : decode cX7_move 6 = .ok (.aload_n 0, 1) := by decide +kernel
theorem dX7_move_7 : decode cX7_move 7 = .ok (.iload_n 2, 1) := by decide +kernel
theorem dX7_move_8 : decode cX7_move 8 = .ok (.invokevirtual 126, 3) := by decide +kernel
theorem dX7_move_11 : decode cX7_move 11 = .ok (.aload_n 3, 1) := by decide +kernel
theorem dX7_move_12 : decode cX7_move 12 = .ok (.iload_n 2, 1) := by decide +kernel
theorem dX7_move_13 : decode cX7_move 13 = .ok (.putfield 58, 3) := by decide +kernel
theorem dX7_move_16 : decode cX7_move 16 = .ok (.aload_n 3, 1) := by decide +kernel
theorem dX7_move_17 : decode cX7_move 17 = .ok (.iconst 0, 1) := by decide +kernel
theorem dX7_move_18 : decode cX7_move 18 = .ok (.putfield 139, 3) := by decide +kernel
theorem dX7_move_21 : decode cX7_move 21 = .ok (.aload_n 0, 1) := by decide +kernel
theorem dX7_move_22 : decode cX7_move 22 = .ok (.aload_n 3, 1) := by decide +kernel
theorem dX7_move_23 : decode cX7_move 23 = .ok (.invokevirtual 62, 3) := by decide +kernel
theorem dX7_move_26 : decode cX7_move 26 = .ok (.aload_n 3, 1) := by decide +kernel
theorem dX7_move_27 : decode cX7_move 27 = .ok (.getfield 142, 3) := by decide +kernel
theorem dX7_move_30 : decode cX7_move 30 = .ok (.ireturn, 1) := by decide +kernel
theorem dX7_off_0 : decode cX7_off 0 = .ok (.aload_n 0, 1) := by decide +kernel
theorem dX7_off_1 : decode cX7_off 1 = .ok (.iload_n 1, 1) := by decide +kernel
theorem dX7_off_2 : decode cX7_off 2 = .ok (.invokevirtual 135, 3) := by decide +kernel
theorem dX7_off_5 : decode cX7_off 5 = .ok (.astore_n 2, 1) := by decide +kernel
theorem dX7_off_6 : decode cX7_off 6 = .ok (.aload_n 2, 1) := by decide +kernel
theorem dX7_off_7 : decode cX7_off 7 = .ok (.getfield 142, 3) := by decide +kernel
theorem dX7_off_10 : decode cX7_off 10 = .ok (.istore_n 3, 1) := by decide +kernel
theorem dX7_off_11 : decode cX7_off 11 = .ok (.aload_n 2, 1) := by decide +kernel
theorem dX7_off_12 : decode cX7_off 12 = .ok (.iconst (-1), 1) := by decide +kernel
theorem dX7_off_13 : decode cX7_off 13 = .ok (.putfield 142, 3) := by decide +kernel
theorem dX7_off_16 : decode cX7_off 16 = .ok (.iload_n 3, 1) := by decide +kernel
theorem dX7_off_17 : decode cX7_off 17 = .ok (.ireturn, 1) := by decide +kernel
theorem dX7_attach_0 : decode cX7_attach 0 = .ok (.aload_n 0, 1) := by decide +kernel
theorem dX7_attach_1 : decode cX7_attach 1 = .ok (.iload_n 1, 1) := by decide +kernel
theorem dX7_attach_2 : decode cX7_attach 2 = .ok (.invokevirtual 135, 3) := by decide +kernel
theorem dX7_attach_5 : decode cX7_attach 5 = .ok (.astore_n 3, 1) := by decide +kernel
theorem dX7_attach_6 : decode cX7_attach 6 = .ok (.aload_n 0, 1) := by decide +kernel
theorem dX7_attach_7 : decode cX7_attach 7 = .ok (.iload_n 2, 1) := by decide +kernel
theorem dX7_attach_8 : decode cX7_attach 8 = .ok (.invokevirtual 87, 3) := by decide +kernel
theorem dX7_attach_11 : decode cX7_attach 11 = .ok (.aload_n 3, 1) := by decide +kernel
theorem dX7_attach_12 : decode cX7_attach 12 = .ok (.getfield 142, 3) := by decide +kernel
theorem dX7_attach_15 : decode cX7_attach 15 = .ok (.iload_n 2, 1) := by decide +kernel
theorem dX7_attach_16 : decode cX7_attach 16 = .ok (.if_icmp .ne 13, 3) := by decide +kernel
theorem dX7_attach_19 : decode cX7_attach 19 = .ok (.new 145, 3) := by decide +kernel
theorem dX7_attach_22 : decode cX7_attach 22 = .ok (.dup, 1) := by decide +kernel
theorem dX7_attach_23 : decode cX7_attach 23 = .ok (.ldc 147, 2) := by decide +kernel
theorem dX7_attach_25 : decode cX7_attach 25 = .ok (.invokespecial 149, 3) := by decide +kernel
theorem dX7_attach_28 : decode cX7_attach 28 = .ok (.athrow, 1) := by decide +kernel
theorem dX7_attach_29 : decode cX7_attach 29 = .ok (.aload_n 0, 1) := by decide +kernel
theorem dX7_attach_30 : decode cX7_attach 30 = .ok (.aload_n 3, 1) := by decide +kernel
theorem dX7_attach_31 : decode cX7_attach 31 = .ok (.iload_n 2, 1) := by decide +kernel
theorem dX7_attach_32 : decode cX7_attach 32 = .ok (.invokevirtual 152, 3) := by decide +kernel
theorem dX7_attach_35 : decode cX7_attach 35 = .ok (.istore 4, 2) := by decide +kernel
theorem dX7_attach_37 : decode cX7_attach 37 = .ok (.iload 4, 2) := by decide +kernel
theorem dX7_attach_39 : decode cX7_attach 39 = .ok (.ifCond .eq 6, 3) := by decide +kernel
theorem dX7_attach_42 : decode cX7_attach 42 = .ok (.iload 4, 2) := by decide +kernel
theorem dX7_attach_44 : decode cX7_attach 44 = .ok (.ireturn, 1) := by decide +kernel
theorem dX7_attach_45 : decode cX7_attach 45 = .ok (.aload_n 0, 1) := by decide +kernel
theorem dX7_attach_46 : decode cX7_attach 46 = .ok (.aload_n 3, 1) := by decide +kernel
theorem dX7_attach_47 : decode cX7_attach 47 = .ok (.iload_n 2, 1) := by decide +kernel
theorem dX7_attach_48 : decode cX7_attach 48 = .ok (.invokevirtual 156, 3) := by decide +kernel
theorem dX7_attach_51 : decode cX7_attach 51 = .ok (.ifCond .eq 15, 3) := by decide +kernel
theorem dX7_attach_54 : decode cX7_attach 54 = .ok (.aload_n 3, 1) := by decide +kernel
theorem dX7_attach_55 : decode cX7_attach 55 = .ok (.dup, 1) := by decide +kernel
theorem dX7_attach_56 : decode cX7_attach 56 = .ok (.getfield 139, 3) := by decide +kernel
theorem dX7_attach_59 : decode cX7_attach 59 = .ok (.iconst 1, 1) := by decide +kernel
theorem dX7_attach_60 : decode cX7_attach 60 = .ok (.iadd, 1) := by decide +kernel
theorem dX7_attach_61 : decode cX7_attach 61 = .ok (.putfield 139, 3) := by decide +kernel
theorem dX7_attach_64 : decode cX7_attach 64 = .ok (.iconst 5, 1) := by decide +kernel
theorem dX7_attach_65 : decode cX7_attach 65 = .ok (.ireturn, 1) := by decide +kernel
theorem dX7_attach_66 : decode cX7_attach 66 = .ok (.aload_n 3, 1) := by decide +kernel
theorem dX7_attach_67 : decode cX7_attach 67 = .ok (.iload_n 2, 1) := by decide +kernel
theorem dX7_attach_68 : decode cX7_attach 68 = .ok (.putfield 142, 3) := by decide +kernel
theorem dX7_attach_71 : decode cX7_attach 71 = .ok (.aload_n 3, 1) := by decide +kernel
theorem dX7_attach_72 : decode cX7_attach 72 = .ok (.iconst 0, 1) := by decide +kernel
theorem dX7_attach_73 : decode cX7_attach 73 = .ok (.putfield 139, 3) := by decide +kernel
theorem dX7_attach_76 : decode cX7_attach 76 = .ok (.aload_n 0, 1) := by decide +kernel
theorem dX7_attach_77 : decode cX7_attach 77 = .ok (.aload_n 3, 1) := by decide +kernel
theorem dX7_attach_78 : decode cX7_attach 78 = .ok (.aload_n 0, 1) := by decide +kernel
theorem dX7_attach_79 : decode cX7_attach 79 = .ok (.getfield 160, 3) := by decide +kernel
theorem dX7_attach_82 : decode cX7_attach 82 = .ok (.invokevirtual 163, 3) := by decide +kernel
theorem dX7_attach_85 : decode cX7_attach 85 = .ok (.iconst 0, 1) := by decide +kernel
theorem dX7_attach_86 : decode cX7_attach 86 = .ok (.ireturn, 1) := by decide +kernel
theorem dX7_emergency_0 : decode cX7_emergency 0 = .ok (.aload_n 0, 1) := by decide +kernel
theorem dX7_emergency_1 : decode cX7_emergency 1 = .ok (.iload_n 1, 1) := by decide +kernel
theorem dX7_emergency_2 : decode cX7_emergency 2 = .ok (.invokevirtual 135, 3) := by decide +kernel
theorem dX7_emergency_5 : decode cX7_emergency 5 = .ok (.astore_n 2, 1) := by decide +kernel
theorem dX7_emergency_6 : decode cX7_emergency 6 = .ok (.aload_n 2, 1) := by decide +kernel
theorem dX7_emergency_7 : decode cX7_emergency 7 = .ok (.getfield 142, 3) := by decide +kernel
theorem dX7_emergency_10 : decode cX7_emergency 10 = .ok (.iconst (-1), 1) := by decide +kernel
theorem dX7_emergency_11 : decode cX7_emergency 11 = .ok (.if_icmp .eq 8, 3) := by decide +kernel
theorem dX7_emergency_14 : decode cX7_emergency 14 = .ok (.aload_n 2, 1) := by decide +kernel
theorem dX7_emergency_15 : decode cX7_emergency 15 = .ok (.getfield 142, 3) := by decide +kernel
theorem dX7_emergency_18 : decode cX7_emergency 18 = .ok (.ireturn, 1) := by decide +kernel
theorem dX7_emergency_19 : decode cX7_emergency 19 = .ok (.aload_n 0, 1) := by decide +kernel
theorem dX7_emergency_20 : decode cX7_emergency 20 = .ok (.aload_n 2, 1) := by decide +kernel
theorem dX7_emergency_21 : decode cX7_emergency 21 = .ok (.getfield 58, 3) := by decide +kernel
theorem dX7_emergency_24 : decode cX7_emergency 24 = .ok (.invokevirtual 40, 3) := by decide +kernel
theorem dX7_emergency_27 : decode cX7_emergency 27 = .ok (.istore_n 3, 1) := by decide +kernel
theorem dX7_emergency_28 : decode cX7_emergency 28 = .ok (.iconst 0, 1) := by decide +kernel
theorem dX7_emergency_29 : decode cX7_emergency 29 = .ok (.istore 4, 2) := by decide +kernel
theorem dX7_emergency_31 : decode cX7_emergency 31 = .ok (.iload 4, 2) := by decide +kernel
theorem dX7_emergency_33 : decode cX7_emergency 33 = .ok (.aload_n 0, 1) := by decide +kernel
theorem dX7_emergency_34 : decode cX7_emergency 34 = .ok (.getfield 15, 3) := by decide +kernel
theorem dX7_emergency_37 : decode cX7_emergency 37 = .ok (.arraylength, 1) := by decide +kernel
theorem dX7_emergency_38 : decode cX7_emergency 38 = .ok (.if_icmp .ge 34, 3) := by decide +kernel
theorem dX7_emergency_41 : decode cX7_emergency 41 = .ok (.iload_n 3, 1) := by decide +kernel
theorem dX7_emergency_42 : decode cX7_emergency 42 = .ok (.iload 4, 2) := by decide +kernel
theorem dX7_emergency_44 : decode cX7_emergency 44 = .ok (.invokestatic 167, 3) := by decide +kernel
theorem dX7_emergency_47 : decode cX7_emergency 47 = .ok (.ifCond .eq 19, 3) := by decide +kernel
theorem dX7_emergency_50 : decode cX7_emergency 50 = .ok (.aload_n 0, 1) := by decide +kernel
theorem dX7_emergency_51 : decode cX7_emergency 51 = .ok (.getfield 15, 3) := by decide +kernel
theorem dX7_emergency_54 : decode cX7_emergency 54 = .ok (.iload 4, 2) := by decide +kernel
theorem dX7_emergency_56 : decode cX7_emergency 56 = .ok (.aaload, 1) := by decide +kernel
theorem dX7_emergency_57 : decode cX7_emergency 57 = .ok (.getfield 70, 3) := by decide +kernel
theorem dX7_emergency_60 : decode cX7_emergency 60 = .ok (.ifCond .ne 6, 3) := by decide +kernel
theorem dX7_emergency_63 : decode cX7_emergency 63 = .ok (.iload 4, 2) := by decide +kernel
theorem dX7_emergency_65 : decode cX7_emergency 65 = .ok (.ireturn, 1) := by decide +kernel
theorem dX7_emergency_66 : decode cX7_emergency 66 = .ok (.iinc 4 1, 3) := by decide +kernel
theorem dX7_emergency_69 : decode cX7_emergency 69 = .ok (.goto (-38), 3) := by decide +kernel
theorem dX7_emergency_72 : decode cX7_emergency 72 = .ok (.iconst (-1), 1) := by decide +kernel
theorem dX7_emergency_73 : decode cX7_emergency 73 = .ok (.ireturn, 1) := by decide +kernel
theorem dX7_where_0 : decode cX7_where 0 = .ok (.aload_n 0, 1) := by decide +kernel
theorem dX7_where_1 : decode cX7_where 1 = .ok (.iload_n 1, 1) := by decide +kernel
theorem dX7_where_2 : decode cX7_where 2 = .ok (.invokevirtual 135, 3) := by decide +kernel
theorem dX7_where_5 : decode cX7_where 5 = .ok (.getfield 171, 3) := by decide +kernel
theorem dX7_where_8 : decode cX7_where 8 = .ok (.ireturn, 1) := by decide +kernel
theorem dX7_contact_0 : decode cX7_contact 0 = .ok (.aload_n 0, 1) := by decide +kernel
theorem dX7_contact_1 : decode cX7_contact 1 = .ok (.iload_n 1, 1) := by decide +kernel
theorem dX7_contact_2 : decode cX7_contact 2 = .ok (.invokevirtual 66, 3) := by decide +kernel
theorem dX7_contact_5 : decode cX7_contact 5 = .ok (.getfield 74, 3) := by decide +kernel
theorem dX7_contact_8 : decode cX7_contact 8 = .ok (.astore_n 3, 1) := by decide +kernel
theorem dX7_contact_9 : decode cX7_contact 9 = .ok (.aload_n 3, 1) := by decide +kernel
theorem dX7_contact_10 : decode cX7_contact 10 = .ok (.aload_n 0, 1) := by decide +kernel
theorem dX7_contact_11 : decode cX7_contact 11 = .ok (.iload_n 2, 1) := by decide +kernel
theorem dX7_contact_12 : decode cX7_contact 12 = .ok (.invokevirtual 135, 3) := by decide +kernel
theorem dX7_contact_15 : decode cX7_contact 15 = .ok (.getfield 132, 3) := by decide +kernel
theorem dX7_contact_18 : decode cX7_contact 18 = .ok (.invokevirtual 174, 3) := by decide +kernel
theorem dX7_contact_21 : decode cX7_contact 21 = .ok (.ireturn, 1) := by decide +kernel
theorem dX7_agrees_0 : decode cX7_agrees 0 = .ok (.aload_n 0, 1) := by decide +kernel
theorem dX7_agrees_1 : decode cX7_agrees 1 = .ok (.iload_n 1, 1) := by decide +kernel
theorem dX7_agrees_2 : decode cX7_agrees 2 = .ok (.invokevirtual 135, 3) := by decide +kernel
theorem dX7_agrees_5 : decode cX7_agrees 5 = .ok (.astore_n 2, 1) := by decide +kernel
theorem dX7_agrees_6 : decode cX7_agrees 6 = .ok (.iconst 0, 1) := by decide +kernel
theorem dX7_agrees_7 : decode cX7_agrees 7 = .ok (.istore_n 3, 1) := by decide +kernel
theorem dX7_agrees_8 : decode cX7_agrees 8 = .ok (.iload_n 3, 1) := by decide +kernel
theorem dX7_agrees_9 : decode cX7_agrees 9 = .ok (.aload_n 0, 1) := by decide +kernel
theorem dX7_agrees_10 : decode cX7_agrees 10 = .ok (.getfield 15, 3) := by decide +kernel
theorem dX7_agrees_13 : decode cX7_agrees 13 = .ok (.arraylength, 1) := by decide +kernel
theorem dX7_agrees_14 : decode cX7_agrees 14 = .ok (.if_icmp .ge 43, 3) := by decide +kernel
theorem dX7_agrees_17 : decode cX7_agrees 17 = .ok (.aload_n 0, 1) := by decide +kernel
theorem dX7_agrees_18 : decode cX7_agrees 18 = .ok (.getfield 15, 3) := by decide +kernel
theorem dX7_agrees_21 : decode cX7_agrees 21 = .ok (.iload_n 3, 1) := by decide +kernel
theorem dX7_agrees_22 : decode cX7_agrees 22 = .ok (.aaload, 1) := by decide +kernel
theorem dX7_agrees_23 : decode cX7_agrees 23 = .ok (.getfield 74, 3) := by decide +kernel
theorem dX7_agrees_26 : decode cX7_agrees 26 = .ok (.aload_n 2, 1) := by decide +kernel
theorem dX7_agrees_27 : decode cX7_agrees 27 = .ok (.getfield 132, 3) := by decide +kernel
theorem dX7_agrees_30 : decode cX7_agrees 30 = .ok (.invokevirtual 177, 3) := by decide +kernel
theorem dX7_agrees_33 : decode cX7_agrees 33 = .ok (.iload_n 3, 1) := by decide +kernel
theorem dX7_agrees_34 : decode cX7_agrees 34 = .ok (.aload_n 2, 1) := by decide +kernel
theorem dX7_agrees_35 : decode cX7_agrees 35 = .ok (.getfield 142, 3) := by decide +kernel
theorem dX7_agrees_38 : decode cX7_agrees 38 = .ok (.if_icmp .ne 7, 3) := by decide +kernel
theorem dX7_agrees_41 : decode cX7_agrees 41 = .ok (.iconst 1, 1) := by decide +kernel
theorem dX7_agrees_42 : decode cX7_agrees 42 = .ok (.goto 4, 3) := by decide +kernel
theorem dX7_agrees_45 : decode cX7_agrees 45 = .ok (.iconst 0, 1) := by decide +kernel
theorem dX7_agrees_46 : decode cX7_agrees 46 = .ok (.if_icmp .eq 5, 3) := by decide +kernel
theorem dX7_agrees_49 : decode cX7_agrees 49 = .ok (.iconst 0, 1) := by decide +kernel
theorem dX7_agrees_50 : decode cX7_agrees 50 = .ok (.ireturn, 1) := by decide +kernel
theorem dX7_agrees_51 : decode cX7_agrees 51 = .ok (.iinc 3 1, 3) := by decide +kernel
theorem dX7_agrees_54 : decode cX7_agrees 54 = .ok (.goto (-46), 3) := by decide +kernel
theorem dX7_agrees_57 : decode cX7_agrees 57 = .ok (.aload_n 2, 1) := by decide +kernel
theorem dX7_agrees_58 : decode cX7_agrees 58 = .ok (.getfield 142, 3) := by decide +kernel
theorem dX7_agrees_61 : decode cX7_agrees 61 = .ok (.iconst (-1), 1) := by decide +kernel
theorem dX7_agrees_62 : decode cX7_agrees 62 = .ok (.if_icmp .eq 14, 3) := by decide +kernel
theorem dX7_agrees_65 : decode cX7_agrees 65 = .ok (.aload_n 2, 1) := by decide +kernel
theorem dX7_agrees_66 : decode cX7_agrees 66 = .ok (.getfield 171, 3) := by decide +kernel
theorem dX7_agrees_69 : decode cX7_agrees 69 = .ok (.aload_n 2, 1) := by decide +kernel
theorem dX7_agrees_70 : decode cX7_agrees 70 = .ok (.getfield 142, 3) := by decide +kernel
theorem dX7_agrees_73 : decode cX7_agrees 73 = .ok (.if_icmp .ne 7, 3) := by decide +kernel
theorem dX7_agrees_76 : decode cX7_agrees 76 = .ok (.iconst 1, 1) := by decide +kernel
theorem dX7_agrees_77 : decode cX7_agrees 77 = .ok (.goto 4, 3) := by decide +kernel
theorem dX7_agrees_80 : decode cX7_agrees 80 = .ok (.iconst 0, 1) := by decide +kernel
theorem dX7_agrees_81 : decode cX7_agrees 81 = .ok (.ireturn, 1) := by decide +kernel
theorem dX7_subscriberIs_0 : decode cX7_subscriberIs 0 = .ok (.aload_n 0, 1) := by decide +kernel
theorem dX7_subscriberIs_1 : decode cX7_subscriberIs 1 = .ok (.iload_n 1, 1) := by decide +kernel
theorem dX7_subscriberIs_2 : decode cX7_subscriberIs 2 = .ok (.invokevirtual 135, 3) := by decide +kernel
theorem dX7_subscriberIs_5 : decode cX7_subscriberIs 5 = .ok (.astore_n 3, 1) := by decide +kernel
theorem dX7_subscriberIs_6 : decode cX7_subscriberIs 6 = .ok (.iload_n 2, 1) := by decide +kernel
theorem dX7_subscriberIs_7 : decode cX7_subscriberIs 7 = .ok (.tableswitch 84 0 6 #[41, 46, 51, 56, 61, 66, 79], 41) := by decide +kernel
theorem dX7_subscriberIs_48 : decode cX7_subscriberIs 48 = .ok (.aload_n 3, 1) := by decide +kernel
theorem dX7_subscriberIs_49 : decode cX7_subscriberIs 49 = .ok (.getfield 142, 3) := by decide +kernel
theorem dX7_subscriberIs_52 : decode cX7_subscriberIs 52 = .ok (.ireturn, 1) := by decide +kernel
theorem dX7_subscriberIs_53 : decode cX7_subscriberIs 53 = .ok (.aload_n 3, 1) := by decide +kernel
theorem dX7_subscriberIs_54 : decode cX7_subscriberIs 54 = .ok (.getfield 58, 3) := by decide +kernel
theorem dX7_subscriberIs_57 : decode cX7_subscriberIs 57 = .ok (.ireturn, 1) := by decide +kernel
theorem dX7_subscriberIs_58 : decode cX7_subscriberIs 58 = .ok (.aload_n 3, 1) := by decide +kernel
theorem dX7_subscriberIs_59 : decode cX7_subscriberIs 59 = .ok (.getfield 139, 3) := by decide +kernel
theorem dX7_subscriberIs_62 : decode cX7_subscriberIs 62 = .ok (.ireturn, 1) := by decide +kernel
theorem dX7_subscriberIs_63 : decode cX7_subscriberIs 63 = .ok (.aload_n 3, 1) := by decide +kernel
theorem dX7_subscriberIs_64 : decode cX7_subscriberIs 64 = .ok (.getfield 181, 3) := by decide +kernel
theorem dX7_subscriberIs_67 : decode cX7_subscriberIs 67 = .ok (.ireturn, 1) := by decide +kernel
theorem dX7_subscriberIs_68 : decode cX7_subscriberIs 68 = .ok (.aload_n 3, 1) := by decide +kernel
theorem dX7_subscriberIs_69 : decode cX7_subscriberIs 69 = .ok (.getfield 184, 3) := by decide +kernel
theorem dX7_subscriberIs_72 : decode cX7_subscriberIs 72 = .ok (.ireturn, 1) := by decide +kernel
theorem dX7_subscriberIs_73 : decode cX7_subscriberIs 73 = .ok (.aload_n 3, 1) := by decide +kernel
theorem dX7_subscriberIs_74 : decode cX7_subscriberIs 74 = .ok (.invokevirtual 187, 3) := by decide +kernel
theorem dX7_subscriberIs_77 : decode cX7_subscriberIs 77 = .ok (.ifCond .eq 7, 3) := by decide +kernel
theorem dX7_subscriberIs_80 : decode cX7_subscriberIs 80 = .ok (.iconst 1, 1) := by decide +kernel
theorem dX7_subscriberIs_81 : decode cX7_subscriberIs 81 = .ok (.goto 4, 3) := by decide +kernel
theorem dX7_subscriberIs_84 : decode cX7_subscriberIs 84 = .ok (.iconst 0, 1) := by decide +kernel
theorem dX7_subscriberIs_85 : decode cX7_subscriberIs 85 = .ok (.ireturn, 1) := by decide +kernel
theorem dX7_subscriberIs_86 : decode cX7_subscriberIs 86 = .ok (.aload_n 3, 1) := by decide +kernel
theorem dX7_subscriberIs_87 : decode cX7_subscriberIs 87 = .ok (.getfield 191, 3) := by decide +kernel
theorem dX7_subscriberIs_90 : decode cX7_subscriberIs 90 = .ok (.ireturn, 1) := by decide +kernel
theorem dX7_subscriberIs_91 : decode cX7_subscriberIs 91 = .ok (.new 194, 3) := by decide +kernel
theorem dX7_subscriberIs_94 : decode cX7_subscriberIs 94 = .ok (.dup, 1) := by decide +kernel
theorem dX7_subscriberIs_95 : decode cX7_subscriberIs 95 = .ok (.ldc 196, 2) := by decide +kernel
theorem dX7_subscriberIs_97 : decode cX7_subscriberIs 97 = .ok (.invokespecial 198, 3) := by decide +kernel
theorem dX7_subscriberIs_100 : decode cX7_subscriberIs 100 = .ok (.athrow, 1) := by decide +kernel
theorem dX7_cap_0 : decode cX7_cap 0 = .ok (.aload_n 0, 1) := by decide +kernel
theorem dX7_cap_1 : decode cX7_cap 1 = .ok (.iload_n 1, 1) := by decide +kernel
theorem dX7_cap_2 : decode cX7_cap 2 = .ok (.invokevirtual 135, 3) := by decide +kernel
theorem dX7_cap_5 : decode cX7_cap 5 = .ok (.astore 4, 2) := by decide +kernel
theorem dX7_cap_7 : decode cX7_cap 7 = .ok (.iload_n 2, 1) := by decide +kernel
theorem dX7_cap_8 : decode cX7_cap 8 = .ok (.iconst 0, 1) := by decide +kernel
theorem dX7_cap_9 : decode cX7_cap 9 = .ok (.ldc 199, 2) := by decide +kernel
theorem dX7_cap_11 : decode cX7_cap 11 = .ok (.invokestatic 44, 3) := by decide +kernel
theorem dX7_cap_14 : decode cX7_cap 14 = .ok (.aload 4, 2) := by decide +kernel
theorem dX7_cap_16 : decode cX7_cap 16 = .ok (.iload_n 2, 1) := by decide +kernel
theorem dX7_cap_17 : decode cX7_cap 17 = .ok (.putfield 191, 3) := by decide +kernel
theorem dX7_cap_20 : decode cX7_cap 20 = .ok (.aload 4, 2) := by decide +kernel
theorem dX7_cap_22 : decode cX7_cap 22 = .ok (.iload_n 3, 1) := by decide +kernel
theorem dX7_cap_23 : decode cX7_cap 23 = .ok (.putfield 200, 3) := by decide +kernel
theorem dX7_cap_26 : decode cX7_cap 26 = .ok (.return_, 1) := by decide +kernel
theorem dX7_call_0 : decode cX7_call 0 = .ok (.aload_n 0, 1) := by decide +kernel
theorem dX7_call_1 : decode cX7_call 1 = .ok (.iload_n 1, 1) := by decide +kernel
theorem dX7_call_2 : decode cX7_call 2 = .ok (.invokevirtual 135, 3) := by decide +kernel
theorem dX7_call_5 : decode cX7_call 5 = .ok (.astore 4, 2) := by decide +kernel
theorem dX7_call_7 : decode cX7_call 7 = .ok (.aload_n 0, 1) := by decide +kernel
theorem dX7_call_8 : decode cX7_call 8 = .ok (.iload_n 2, 1) := by decide +kernel
theorem dX7_call_9 : decode cX7_call 9 = .ok (.invokevirtual 135, 3) := by decide +kernel
theorem dX7_call_12 : decode cX7_call 12 = .ok (.astore 5, 2) := by decide +kernel
theorem dX7_call_14 : decode cX7_call 14 = .ok (.iload_n 1, 1) := by decide +kernel
theorem dX7_call_15 : decode cX7_call 15 = .ok (.iload_n 2, 1) := by decide +kernel
theorem dX7_call_16 : decode cX7_call 16 = .ok (.invokestatic 90, 3) := by decide +kernel
theorem dX7_call_19 : decode cX7_call 19 = .ok (.iload_n 3, 1) := by decide +kernel
theorem dX7_call_20 : decode cX7_call 20 = .ok (.iconst 1, 1) := by decide +kernel
theorem dX7_call_21 : decode cX7_call 21 = .ok (.ldc 203, 2) := by decide +kernel
theorem dX7_call_23 : decode cX7_call 23 = .ok (.invokestatic 44, 3) := by decide +kernel
theorem dX7_call_26 : decode cX7_call 26 = .ok (.aload_n 0, 1) := by decide +kernel
theorem dX7_call_27 : decode cX7_call 27 = .ok (.getfield 35, 3) := by decide +kernel
theorem dX7_call_30 : decode cX7_call 30 = .ok (.invokevirtual 48, 3) := by decide +kernel
theorem dX7_call_33 : decode cX7_call 33 = .ok (.sipush 200, 3) := by decide +kernel
theorem dX7_call_36 : decode cX7_call 36 = .ok (.invokestatic 96, 3) := by decide +kernel
theorem dX7_call_39 : decode cX7_call 39 = .ok (.aload_n 0, 1) := by decide +kernel
theorem dX7_call_40 : decode cX7_call 40 = .ok (.aload 4, 2) := by decide +kernel
theorem dX7_call_42 : decode cX7_call 42 = .ok (.aload 5, 2) := by decide +kernel
theorem dX7_call_44 : decode cX7_call 44 = .ok (.invokevirtual 204, 3) := by decide +kernel
theorem dX7_call_47 : decode cX7_call 47 = .ok (.istore 6, 2) := by decide +kernel
theorem dX7_call_49 : decode cX7_call 49 = .ok (.iload 6, 2) := by decide +kernel
theorem dX7_call_51 : decode cX7_call 51 = .ok (.ifCond .eq 6, 3) := by decide +kernel
theorem dX7_call_54 : decode cX7_call 54 = .ok (.iload 6, 2) := by decide +kernel
theorem dX7_call_56 : decode cX7_call 56 = .ok (.ireturn, 1) := by decide +kernel
theorem dX7_call_57 : decode cX7_call 57 = .ok (.iload_n 3, 1) := by decide +kernel
theorem dX7_call_58 : decode cX7_call 58 = .ok (.bipush 59, 2) := by decide +kernel
theorem dX7_call_60 : decode cX7_call 60 = .ok (.iadd, 1) := by decide +kernel
theorem dX7_call_61 : decode cX7_call 61 = .ok (.bipush 60, 2) := by decide +kernel
theorem dX7_call_63 : decode cX7_call 63 = .ok (.idiv, 1) := by decide +kernel
theorem dX7_call_64 : decode cX7_call 64 = .ok (.istore 7, 2) := by decide +kernel
theorem dX7_call_66 : decode cX7_call 66 = .ok (.iload 7, 2) := by decide +kernel
theorem dX7_call_68 : decode cX7_call 68 = .ok (.aload_n 0, 1) := by decide +kernel
theorem dX7_call_69 : decode cX7_call 69 = .ok (.aload 4, 2) := by decide +kernel
theorem dX7_call_71 : decode cX7_call 71 = .ok (.invokevirtual 208, 3) := by decide +kernel
theorem dX7_call_74 : decode cX7_call 74 = .ok (.imul, 1) := by decide +kernel
theorem dX7_call_75 : decode cX7_call 75 = .ok (.istore 8, 2) := by decide +kernel
theorem dX7_call_77 : decode cX7_call 77 = .ok (.iload 7, 2) := by decide +kernel
theorem dX7_call_79 : decode cX7_call 79 = .ok (.aload_n 0, 1) := by decide +kernel
theorem dX7_call_80 : decode cX7_call 80 = .ok (.aload 5, 2) := by decide +kernel
theorem dX7_call_82 : decode cX7_call 82 = .ok (.invokevirtual 212, 3) := by decide +kernel
theorem dX7_call_85 : decode cX7_call 85 = .ok (.imul, 1) := by decide +kernel
theorem dX7_call_86 : decode cX7_call 86 = .ok (.istore 9, 2) := by decide +kernel
theorem dX7_call_88 : decode cX7_call 88 = .ok (.aload 4, 2) := by decide +kernel
theorem dX7_call_90 : decode cX7_call 90 = .ok (.iload 8, 2) := by decide +kernel
theorem dX7_call_92 : decode cX7_call 92 = .ok (.invokevirtual 215, 3) := by decide +kernel
theorem dX7_call_95 : decode cX7_call 95 = .ok (.ifCond .eq 5, 3) := by decide +kernel
theorem dX7_call_98 : decode cX7_call 98 = .ok (.iconst 5, 1) := by decide +kernel
theorem dX7_call_99 : decode cX7_call 99 = .ok (.ireturn, 1) := by decide +kernel
theorem dX7_call_100 : decode cX7_call 100 = .ok (.aload 5, 2) := by decide +kernel
theorem dX7_call_102 : decode cX7_call 102 = .ok (.iload 9, 2) := by decide +kernel
theorem dX7_call_104 : decode cX7_call 104 = .ok (.invokevirtual 215, 3) := by decide +kernel
theorem dX7_call_107 : decode cX7_call 107 = .ok (.ifCond .eq 6, 3) := by decide +kernel
theorem dX7_call_110 : decode cX7_call 110 = .ok (.bipush 6, 2) := by decide +kernel
theorem dX7_call_112 : decode cX7_call 112 = .ok (.ireturn, 1) := by decide +kernel
theorem dX7_call_113 : decode cX7_call 113 = .ok (.aload_n 0, 1) := by decide +kernel
theorem dX7_call_114 : decode cX7_call 114 = .ok (.getfield 35, 3) := by decide +kernel
theorem dX7_call_117 : decode cX7_call 117 = .ok (.new 218, 3) := by decide +kernel
theorem dX7_call_120 : decode cX7_call 120 = .ok (.dup, 1) := by decide +kernel
theorem dX7_call_121 : decode cX7_call 121 = .ok (.iload_n 1, 1) := by decide +kernel
theorem dX7_call_122 : decode cX7_call 122 = .ok (.iload 8, 2) := by decide +kernel
theorem dX7_call_124 : decode cX7_call 124 = .ok (.iload_n 2, 1) := by decide +kernel
theorem dX7_call_125 : decode cX7_call 125 = .ok (.iload 9, 2) := by decide +kernel
theorem dX7_call_127 : decode cX7_call 127 = .ok (.invokespecial 220, 3) := by decide +kernel
theorem dX7_call_130 : decode cX7_call 130 = .ok (.invokevirtual 104, 3) := by decide +kernel
theorem dX7_call_133 : decode cX7_call 133 = .ok (.pop, 1) := by decide +kernel
theorem dX7_call_134 : decode cX7_call 134 = .ok (.aload_n 0, 1) := by decide +kernel
theorem dX7_call_135 : decode cX7_call 135 = .ok (.aload 4, 2) := by decide +kernel
theorem dX7_call_137 : decode cX7_call 137 = .ok (.iload 8, 2) := by decide +kernel
theorem dX7_call_139 : decode cX7_call 139 = .ok (.iload 7, 2) := by decide +kernel
theorem dX7_call_141 : decode cX7_call 141 = .ok (.invokevirtual 221, 3) := by decide +kernel
theorem dX7_call_144 : decode cX7_call 144 = .ok (.aload_n 0, 1) := by decide +kernel
theorem dX7_call_145 : decode cX7_call 145 = .ok (.aload 5, 2) := by decide +kernel
theorem dX7_call_147 : decode cX7_call 147 = .ok (.iload 9, 2) := by decide +kernel
theorem dX7_call_149 : decode cX7_call 149 = .ok (.iload 7, 2) := by decide +kernel
theorem dX7_call_151 : decode cX7_call 151 = .ok (.invokevirtual 221, 3) := by decide +kernel
theorem dX7_call_154 : decode cX7_call 154 = .ok (.iconst 0, 1) := by decide +kernel
theorem dX7_call_155 : decode cX7_call 155 = .ok (.ireturn, 1) := by decide +kernel
theorem dX7_paidAnew_0 : decode cX7_paidAnew 0 = .ok (.aload_n 0, 1) := by decide +kernel
theorem dX7_paidAnew_1 : decode cX7_paidAnew 1 = .ok (.iload_n 1, 1) := by decide +kernel
theorem dX7_paidAnew_2 : decode cX7_paidAnew 2 = .ok (.invokevirtual 135, 3) := by decide +kernel
theorem dX7_paidAnew_5 : decode cX7_paidAnew 5 = .ok (.getfield 132, 3) := by decide +kernel
theorem dX7_paidAnew_8 : decode cX7_paidAnew 8 = .ok (.istore_n 2, 1) := by decide +kernel
theorem dX7_paidAnew_9 : decode cX7_paidAnew 9 = .ok (.iconst 0, 1) := by decide +kernel
theorem dX7_paidAnew_10 : decode cX7_paidAnew 10 = .ok (.istore_n 3, 1) := by decide +kernel
theorem dX7_paidAnew_11 : decode cX7_paidAnew 11 = .ok (.iconst 0, 1) := by decide +kernel
theorem dX7_paidAnew_12 : decode cX7_paidAnew 12 = .ok (.istore 4, 2) := by decide +kernel
theorem dX7_paidAnew_14 : decode cX7_paidAnew 14 = .ok (.iload 4, 2) := by decide +kernel
theorem dX7_paidAnew_16 : decode cX7_paidAnew 16 = .ok (.aload_n 0, 1) := by decide +kernel
theorem dX7_paidAnew_17 : decode cX7_paidAnew 17 = .ok (.getfield 35, 3) := by decide +kernel
theorem dX7_paidAnew_20 : decode cX7_paidAnew 20 = .ok (.invokevirtual 48, 3) := by decide +kernel
theorem dX7_paidAnew_23 : decode cX7_paidAnew 23 = .ok (.if_icmp .ge 28, 3) := by decide +kernel
theorem dX7_paidAnew_26 : decode cX7_paidAnew 26 = .ok (.iload_n 3, 1) := by decide +kernel
theorem dX7_paidAnew_27 : decode cX7_paidAnew 27 = .ok (.aload_n 0, 1) := by decide +kernel
theorem dX7_paidAnew_28 : decode cX7_paidAnew 28 = .ok (.getfield 35, 3) := by decide +kernel
theorem dX7_paidAnew_31 : decode cX7_paidAnew 31 = .ok (.iload 4, 2) := by decide +kernel
theorem dX7_paidAnew_33 : decode cX7_paidAnew 33 = .ok (.invokevirtual 52, 3) := by decide +kernel
theorem dX7_paidAnew_36 : decode cX7_paidAnew 36 = .ok (.checkcast 218, 3) := by decide +kernel
theorem dX7_paidAnew_39 : decode cX7_paidAnew 39 = .ok (.iload_n 2, 1) := by decide +kernel
theorem dX7_paidAnew_40 : decode cX7_paidAnew 40 = .ok (.invokevirtual 225, 3) := by decide +kernel
theorem dX7_paidAnew_43 : decode cX7_paidAnew 43 = .ok (.iadd, 1) := by decide +kernel
theorem dX7_paidAnew_44 : decode cX7_paidAnew 44 = .ok (.istore_n 3, 1) := by decide +kernel
theorem dX7_paidAnew_45 : decode cX7_paidAnew 45 = .ok (.iinc 4 1, 3) := by decide +kernel
theorem dX7_paidAnew_48 : decode cX7_paidAnew 48 = .ok (.goto (-34), 3) := by decide +kernel
theorem dX7_paidAnew_51 : decode cX7_paidAnew 51 = .ok (.iload_n 3, 1) := by decide +kernel
theorem dX7_paidAnew_52 : decode cX7_paidAnew 52 = .ok (.ireturn, 1) := by decide +kernel
theorem dX7_file_0 : decode cX7_file 0 = .ok (.aload_n 0, 1) := by decide +kernel
theorem dX7_file_1 : decode cX7_file 1 = .ok (.iload_n 1, 1) := by decide +kernel
theorem dX7_file_2 : decode cX7_file 2 = .ok (.iload_n 2, 1) := by decide +kernel
theorem dX7_file_3 : decode cX7_file 3 = .ok (.invokevirtual 228, 3) := by decide +kernel
theorem dX7_file_6 : decode cX7_file 6 = .ok (.astore_n 3, 1) := by decide +kernel
theorem dX7_file_7 : decode cX7_file 7 = .ok (.aload_n 3, 1) := by decide +kernel
theorem dX7_file_8 : decode cX7_file 8 = .ok (.invokevirtual 232, 3) := by decide +kernel
theorem dX7_file_11 : decode cX7_file 11 = .ok (.ifCond .ne 13, 3) := by decide +kernel
theorem dX7_file_14 : decode cX7_file 14 = .ok (.new 145, 3) := by decide +kernel
theorem dX7_file_17 : decode cX7_file 17 = .ok (.dup, 1) := by decide +kernel
theorem dX7_file_18 : decode cX7_file 18 = .ok (.ldc 235, 2) := by decide +kernel
theorem dX7_file_20 : decode cX7_file 20 = .ok (.invokespecial 149, 3) := by decide +kernel
theorem dX7_file_23 : decode cX7_file 23 = .ok (.athrow, 1) := by decide +kernel
theorem dX7_file_24 : decode cX7_file 24 = .ok (.aload_n 3, 1) := by decide +kernel
theorem dX7_file_25 : decode cX7_file 25 = .ok (.getfield 237, 3) := by decide +kernel
theorem dX7_file_28 : decode cX7_file 28 = .ok (.bipush 20, 2) := by decide +kernel
theorem dX7_file_30 : decode cX7_file 30 = .ok (.invokestatic 96, 3) := by decide +kernel
theorem dX7_file_33 : decode cX7_file 33 = .ok (.aload_n 3, 1) := by decide +kernel
theorem dX7_file_34 : decode cX7_file 34 = .ok (.invokevirtual 240, 3) := by decide +kernel
theorem dX7_file_37 : decode cX7_file 37 = .ok (.ireturn, 1) := by decide +kernel
theorem dX7_deliver_0 : decode cX7_deliver 0 = .ok (.aload_n 0, 1) := by decide +kernel
theorem dX7_deliver_1 : decode cX7_deliver 1 = .ok (.iload_n 1, 1) := by decide +kernel
theorem dX7_deliver_2 : decode cX7_deliver 2 = .ok (.iload_n 2, 1) := by decide +kernel
theorem dX7_deliver_3 : decode cX7_deliver 3 = .ok (.invokevirtual 228, 3) := by decide +kernel
theorem dX7_deliver_6 : decode cX7_deliver 6 = .ok (.astore 4, 2) := by decide +kernel
theorem dX7_deliver_8 : decode cX7_deliver 8 = .ok (.iload_n 3, 1) := by decide +kernel
theorem dX7_deliver_9 : decode cX7_deliver 9 = .ok (.ifCond .lt 12, 3) := by decide +kernel
theorem dX7_deliver_12 : decode cX7_deliver 12 = .ok (.iload_n 3, 1) := by decide +kernel
theorem dX7_deliver_13 : decode cX7_deliver 13 = .ok (.aload 4, 2) := by decide +kernel
theorem dX7_deliver_15 : decode cX7_deliver 15 = .ok (.getfield 237, 3) := by decide +kernel
theorem dX7_deliver_18 : decode cX7_deliver 18 = .ok (.if_icmp .lt 13, 3) := by decide +kernel
theorem dX7_deliver_21 : decode cX7_deliver 21 = .ok (.new 243, 3) := by decide +kernel
theorem dX7_deliver_24 : decode cX7_deliver 24 = .ok (.dup, 1) := by decide +kernel
theorem dX7_deliver_25 : decode cX7_deliver 25 = .ok (.ldc 245, 2) := by decide +kernel
theorem dX7_deliver_27 : decode cX7_deliver 27 = .ok (.invokespecial 247, 3) := by decide +kernel
theorem dX7_deliver_30 : decode cX7_deliver 30 = .ok (.athrow, 1) := by decide +kernel
theorem dX7_deliver_31 : decode cX7_deliver 31 = .ok (.iload_n 3, 1) := by decide +kernel
theorem dX7_deliver_32 : decode cX7_deliver 32 = .ok (.aload 4, 2) := by decide +kernel
theorem dX7_deliver_34 : decode cX7_deliver 34 = .ok (.getfield 248, 3) := by decide +kernel
theorem dX7_deliver_37 : decode cX7_deliver 37 = .ok (.if_icmp .ge 5, 3) := by decide +kernel
theorem dX7_deliver_40 : decode cX7_deliver 40 = .ok (.iconst (-1), 1) := by decide +kernel
theorem dX7_deliver_41 : decode cX7_deliver 41 = .ok (.ireturn, 1) := by decide +kernel
theorem dX7_deliver_42 : decode cX7_deliver 42 = .ok (.iload_n 3, 1) := by decide +kernel
theorem dX7_deliver_43 : decode cX7_deliver 43 = .ok (.aload 4, 2) := by decide +kernel
theorem dX7_deliver_45 : decode cX7_deliver 45 = .ok (.getfield 248, 3) := by decide +kernel
theorem dX7_deliver_48 : decode cX7_deliver 48 = .ok (.if_icmp .le 6, 3) := by decide +kernel
theorem dX7_deliver_51 : decode cX7_deliver 51 = .ok (.bipush (-2), 2) := by decide +kernel
theorem dX7_deliver_53 : decode cX7_deliver 53 = .ok (.ireturn, 1) := by decide +kernel
theorem dX7_deliver_54 : decode cX7_deliver 54 = .ok (.aload 4, 2) := by decide +kernel
theorem dX7_deliver_56 : decode cX7_deliver 56 = .ok (.aload_n 0, 1) := by decide +kernel
theorem dX7_deliver_57 : decode cX7_deliver 57 = .ok (.getfield 160, 3) := by decide +kernel
theorem dX7_deliver_60 : decode cX7_deliver 60 = .ok (.invokevirtual 251, 3) := by decide +kernel
theorem dX7_deliver_63 : decode cX7_deliver 63 = .ok (.ireturn, 1) := by decide +kernel
theorem dX7_owes_0 : decode cX7_owes 0 = .ok (.aload_n 0, 1) := by decide +kernel
theorem dX7_owes_1 : decode cX7_owes 1 = .ok (.iload_n 2, 1) := by decide +kernel
theorem dX7_owes_2 : decode cX7_owes 2 = .ok (.iload_n 1, 1) := by decide +kernel
theorem dX7_owes_3 : decode cX7_owes 3 = .ok (.invokevirtual 228, 3) := by decide +kernel
theorem dX7_owes_6 : decode cX7_owes 6 = .ok (.invokevirtual 254, 3) := by decide +kernel
theorem dX7_owes_9 : decode cX7_owes 9 = .ok (.ireturn, 1) := by decide +kernel
theorem dX7_owesAnew_0 : decode cX7_owesAnew 0 = .ok (.aload_n 0, 1) := by decide +kernel
theorem dX7_owesAnew_1 : decode cX7_owesAnew 1 = .ok (.iload_n 2, 1) := by decide +kernel
theorem dX7_owesAnew_2 : decode cX7_owesAnew 2 = .ok (.iload_n 1, 1) := by decide +kernel
theorem dX7_owesAnew_3 : decode cX7_owesAnew 3 = .ok (.invokevirtual 228, 3) := by decide +kernel
theorem dX7_owesAnew_6 : decode cX7_owesAnew 6 = .ok (.invokevirtual 257, 3) := by decide +kernel
theorem dX7_owesAnew_9 : decode cX7_owesAnew 9 = .ok (.ireturn, 1) := by decide +kernel
theorem dX7_recorded_0 : decode cX7_recorded 0 = .ok (.aload_n 0, 1) := by decide +kernel
theorem dX7_recorded_1 : decode cX7_recorded 1 = .ok (.iload_n 1, 1) := by decide +kernel
theorem dX7_recorded_2 : decode cX7_recorded 2 = .ok (.iload_n 2, 1) := by decide +kernel
theorem dX7_recorded_3 : decode cX7_recorded 3 = .ok (.invokevirtual 228, 3) := by decide +kernel
theorem dX7_recorded_6 : decode cX7_recorded 6 = .ok (.astore 4, 2) := by decide +kernel
theorem dX7_recorded_8 : decode cX7_recorded 8 = .ok (.iload_n 3, 1) := by decide +kernel
theorem dX7_recorded_9 : decode cX7_recorded 9 = .ok (.iconst 0, 1) := by decide +kernel
theorem dX7_recorded_10 : decode cX7_recorded 10 = .ok (.iconst 3, 1) := by decide +kernel
theorem dX7_recorded_11 : decode cX7_recorded 11 = .ok (.invokestatic 44, 3) := by decide +kernel
theorem dX7_recorded_14 : decode cX7_recorded 14 = .ok (.aload 4, 2) := by decide +kernel
theorem dX7_recorded_16 : decode cX7_recorded 16 = .ok (.iload_n 3, 1) := by decide +kernel
theorem dX7_recorded_17 : decode cX7_recorded 17 = .ok (.invokevirtual 260, 3) := by decide +kernel
theorem dX7_recorded_20 : decode cX7_recorded 20 = .ok (.ireturn, 1) := by decide +kernel
theorem dX7_pass_0 : decode cX7_pass 0 = .ok (.iload_n 1, 1) := by decide +kernel
theorem dX7_pass_1 : decode cX7_pass 1 = .ok (.iconst 1, 1) := by decide +kernel
theorem dX7_pass_2 : decode cX7_pass 2 = .ok (.ldc_w 263, 3) := by decide +kernel
theorem dX7_pass_5 : decode cX7_pass 5 = .ok (.invokestatic 44, 3) := by decide +kernel
theorem dX7_pass_8 : decode cX7_pass 8 = .ok (.iload_n 1, 1) := by decide +kernel
theorem dX7_pass_9 : decode cX7_pass 9 = .ok (.ldc 94, 2) := by decide +kernel
theorem dX7_pass_11 : decode cX7_pass 11 = .ok (.aload_n 0, 1) := by decide +kernel
theorem dX7_pass_12 : decode cX7_pass 12 = .ok (.getfield 160, 3) := by decide +kernel
theorem dX7_pass_15 : decode cX7_pass 15 = .ok (.isub, 1) := by decide +kernel
theorem dX7_pass_16 : decode cX7_pass 16 = .ok (.if_icmp .le 14, 3) := by decide +kernel
theorem dX7_pass_19 : decode cX7_pass 19 = .ok (.new 145, 3) := by decide +kernel
theorem dX7_pass_22 : decode cX7_pass 22 = .ok (.dup, 1) := by decide +kernel
theorem dX7_pass_23 : decode cX7_pass 23 = .ok (.ldc_w 264, 3) := by decide +kernel
theorem dX7_pass_26 : decode cX7_pass 26 = .ok (.invokespecial 149, 3) := by decide +kernel
theorem dX7_pass_29 : decode cX7_pass 29 = .ok (.athrow, 1) := by decide +kernel
theorem dX7_pass_30 : decode cX7_pass 30 = .ok (.aload_n 0, 1) := by decide +kernel
theorem dX7_pass_31 : decode cX7_pass 31 = .ok (.getfield 160, 3) := by decide +kernel
theorem dX7_pass_34 : decode cX7_pass 34 = .ok (.iload_n 1, 1) := by decide +kernel
theorem dX7_pass_35 : decode cX7_pass 35 = .ok (.iadd, 1) := by decide +kernel
theorem dX7_pass_36 : decode cX7_pass 36 = .ok (.istore_n 2, 1) := by decide +kernel
theorem dX7_pass_37 : decode cX7_pass 37 = .ok (.aload_n 0, 1) := by decide +kernel
theorem dX7_pass_38 : decode cX7_pass 38 = .ok (.aload_n 0, 1) := by decide +kernel
theorem dX7_pass_39 : decode cX7_pass 39 = .ok (.getfield 160, 3) := by decide +kernel
theorem dX7_pass_42 : decode cX7_pass 42 = .ok (.bipush 60, 2) := by decide +kernel
theorem dX7_pass_44 : decode cX7_pass 44 = .ok (.idiv, 1) := by decide +kernel
theorem dX7_pass_45 : decode cX7_pass 45 = .ok (.iconst 1, 1) := by decide +kernel
theorem dX7_pass_46 : decode cX7_pass 46 = .ok (.iadd, 1) := by decide +kernel
theorem dX7_pass_47 : decode cX7_pass 47 = .ok (.iload_n 2, 1) := by decide +kernel
theorem dX7_pass_48 : decode cX7_pass 48 = .ok (.bipush 60, 2) := by decide +kernel
theorem dX7_pass_50 : decode cX7_pass 50 = .ok (.idiv, 1) := by decide +kernel
theorem dX7_pass_51 : decode cX7_pass 51 = .ok (.invokevirtual 266, 3) := by decide +kernel
theorem dX7_pass_54 : decode cX7_pass 54 = .ok (.iload_n 2, 1) := by decide +kernel
theorem dX7_pass_55 : decode cX7_pass 55 = .ok (.ldc_w 269, 3) := by decide +kernel
theorem dX7_pass_58 : decode cX7_pass 58 = .ok (.idiv, 1) := by decide +kernel
theorem dX7_pass_59 : decode cX7_pass 59 = .ok (.aload_n 0, 1) := by decide +kernel
theorem dX7_pass_60 : decode cX7_pass 60 = .ok (.getfield 160, 3) := by decide +kernel
theorem dX7_pass_63 : decode cX7_pass 63 = .ok (.ldc_w 269, 3) := by decide +kernel
theorem dX7_pass_66 : decode cX7_pass 66 = .ok (.idiv, 1) := by decide +kernel
theorem dX7_pass_67 : decode cX7_pass 67 = .ok (.if_icmp .eq 7, 3) := by decide +kernel
theorem dX7_pass_70 : decode cX7_pass 70 = .ok (.aload_n 0, 1) := by decide +kernel
theorem dX7_pass_71 : decode cX7_pass 71 = .ok (.invokevirtual 270, 3) := by decide +kernel
theorem dX7_pass_74 : decode cX7_pass 74 = .ok (.aload_n 0, 1) := by decide +kernel
theorem dX7_pass_75 : decode cX7_pass 75 = .ok (.iload_n 2, 1) := by decide +kernel
theorem dX7_pass_76 : decode cX7_pass 76 = .ok (.putfield 160, 3) := by decide +kernel
theorem dX7_pass_79 : decode cX7_pass 79 = .ok (.aload_n 0, 1) := by decide +kernel
theorem dX7_pass_80 : decode cX7_pass 80 = .ok (.getfield 160, 3) := by decide +kernel
theorem dX7_pass_83 : decode cX7_pass 83 = .ok (.ireturn, 1) := by decide +kernel
theorem dX7_requireRange_0 : decode cX7_requireRange 0 = .ok (.iload_n 0, 1) := by decide +kernel
theorem dX7_requireRange_1 : decode cX7_requireRange 1 = .ok (.iload_n 1, 1) := by decide +kernel
theorem dX7_requireRange_2 : decode cX7_requireRange 2 = .ok (.if_icmp .lt 8, 3) := by decide +kernel
theorem dX7_requireRange_5 : decode cX7_requireRange 5 = .ok (.iload_n 0, 1) := by decide +kernel
theorem dX7_requireRange_6 : decode cX7_requireRange 6 = .ok (.iload_n 2, 1) := by decide +kernel
theorem dX7_requireRange_7 : decode cX7_requireRange 7 = .ok (.if_icmp .le 14, 3) := by decide +kernel
theorem dX7_requireRange_10 : decode cX7_requireRange 10 = .ok (.new 194, 3) := by decide +kernel
theorem dX7_requireRange_13 : decode cX7_requireRange 13 = .ok (.dup, 1) := by decide +kernel
theorem dX7_requireRange_14 : decode cX7_requireRange 14 = .ok (.ldc_w 273, 3) := by decide +kernel
theorem dX7_requireRange_17 : decode cX7_requireRange 17 = .ok (.invokespecial 198, 3) := by decide +kernel
theorem dX7_requireRange_20 : decode cX7_requireRange 20 = .ok (.athrow, 1) := by decide +kernel
theorem dX7_requireRange_21 : decode cX7_requireRange 21 = .ok (.return_, 1) := by decide +kernel
theorem dX7_requireDifferent_0 : decode cX7_requireDifferent 0 = .ok (.iload_n 0, 1) := by decide +kernel
theorem dX7_requireDifferent_1 : decode cX7_requireDifferent 1 = .ok (.iload_n 1, 1) := by decide +kernel
theorem dX7_requireDifferent_2 : decode cX7_requireDifferent 2 = .ok (.if_icmp .ne 14, 3) := by decide +kernel
theorem dX7_requireDifferent_5 : decode cX7_requireDifferent 5 = .ok (.new 194, 3) := by decide +kernel
theorem dX7_requireDifferent_8 : decode cX7_requireDifferent 8 = .ok (.dup, 1) := by decide +kernel
theorem dX7_requireDifferent_9 : decode cX7_requireDifferent 9 = .ok (.ldc_w 275, 3) := by decide +kernel
theorem dX7_requireDifferent_12 : decode cX7_requireDifferent 12 = .ok (.invokespecial 198, 3) := by decide +kernel
theorem dX7_requireDifferent_15 : decode cX7_requireDifferent 15 = .ok (.athrow, 1) := by decide +kernel
theorem dX7_requireDifferent_16 : decode cX7_requireDifferent 16 = .ok (.return_, 1) := by decide +kernel
theorem dX7_requireRoom_0 : decode cX7_requireRoom 0 = .ok (.iload_n 0, 1) := by decide +kernel
theorem dX7_requireRoom_1 : decode cX7_requireRoom 1 = .ok (.iload_n 1, 1) := by decide +kernel
theorem dX7_requireRoom_2 : decode cX7_requireRoom 2 = .ok (.if_icmp .lt 14, 3) := by decide +kernel
theorem dX7_requireRoom_5 : decode cX7_requireRoom 5 = .ok (.new 145, 3) := by decide +kernel
theorem dX7_requireRoom_8 : decode cX7_requireRoom 8 = .ok (.dup, 1) := by decide +kernel
theorem dX7_requireRoom_9 : decode cX7_requireRoom 9 = .ok (.ldc_w 277, 3) := by decide +kernel
theorem dX7_requireRoom_12 : decode cX7_requireRoom 12 = .ok (.invokespecial 149, 3) := by decide +kernel
theorem dX7_requireRoom_15 : decode cX7_requireRoom 15 = .ok (.athrow, 1) := by decide +kernel
theorem dX7_requireRoom_16 : decode cX7_requireRoom 16 = .ok (.return_, 1) := by decide +kernel
theorem dX7_requireNetwork_0 : decode cX7_requireNetwork 0 = .ok (.iload_n 1, 1) := by decide +kernel
theorem dX7_requireNetwork_1 : decode cX7_requireNetwork 1 = .ok (.ifCond .lt 12, 3) := by decide +kernel
theorem dX7_requireNetwork_4 : decode cX7_requireNetwork 4 = .ok (.iload_n 1, 1) := by decide +kernel
theorem dX7_requireNetwork_5 : decode cX7_requireNetwork 5 = .ok (.aload_n 0, 1) := by decide +kernel
theorem dX7_requireNetwork_6 : decode cX7_requireNetwork 6 = .ok (.getfield 15, 3) := by decide +kernel
theorem dX7_requireNetwork_9 : decode cX7_requireNetwork 9 = .ok (.arraylength, 1) := by decide +kernel
theorem dX7_requireNetwork_10 : decode cX7_requireNetwork 10 = .ok (.if_icmp .lt 14, 3) := by decide +kernel
theorem dX7_requireNetwork_13 : decode cX7_requireNetwork 13 = .ok (.new 243, 3) := by decide +kernel
theorem dX7_requireNetwork_16 : decode cX7_requireNetwork 16 = .ok (.dup, 1) := by decide +kernel
theorem dX7_requireNetwork_17 : decode cX7_requireNetwork 17 = .ok (.ldc_w 279, 3) := by decide +kernel
theorem dX7_requireNetwork_20 : decode cX7_requireNetwork 20 = .ok (.invokespecial 247, 3) := by decide +kernel
theorem dX7_requireNetwork_23 : decode cX7_requireNetwork 23 = .ok (.athrow, 1) := by decide +kernel
theorem dX7_requireNetwork_24 : decode cX7_requireNetwork 24 = .ok (.return_, 1) := by decide +kernel
theorem dX7_requirePlace_0 : decode cX7_requirePlace 0 = .ok (.iload_n 1, 1) := by decide +kernel
theorem dX7_requirePlace_1 : decode cX7_requirePlace 1 = .ok (.ifCond .lt 12, 3) := by decide +kernel
theorem dX7_requirePlace_4 : decode cX7_requirePlace 4 = .ok (.iload_n 1, 1) := by decide +kernel
theorem dX7_requirePlace_5 : decode cX7_requirePlace 5 = .ok (.aload_n 0, 1) := by decide +kernel
theorem dX7_requirePlace_6 : decode cX7_requirePlace 6 = .ok (.getfield 9, 3) := by decide +kernel
theorem dX7_requirePlace_9 : decode cX7_requirePlace 9 = .ok (.arraylength, 1) := by decide +kernel
theorem dX7_requirePlace_10 : decode cX7_requirePlace 10 = .ok (.if_icmp .lt 14, 3) := by decide +kernel
theorem dX7_requirePlace_13 : decode cX7_requirePlace 13 = .ok (.new 243, 3) := by decide +kernel
theorem dX7_requirePlace_16 : decode cX7_requirePlace 16 = .ok (.dup, 1) := by decide +kernel
theorem dX7_requirePlace_17 : decode cX7_requirePlace 17 = .ok (.ldc_w 281, 3) := by decide +kernel
theorem dX7_requirePlace_20 : decode cX7_requirePlace 20 = .ok (.invokespecial 247, 3) := by decide +kernel
theorem dX7_requirePlace_23 : decode cX7_requirePlace 23 = .ok (.athrow, 1) := by decide +kernel
theorem dX7_requirePlace_24 : decode cX7_requirePlace 24 = .ok (.return_, 1) := by decide +kernel
theorem dX7_networkAt_0 : decode cX7_networkAt 0 = .ok (.aload_n 0, 1) := by decide +kernel
theorem dX7_networkAt_1 : decode cX7_networkAt 1 = .ok (.iload_n 1, 1) := by decide +kernel
theorem dX7_networkAt_2 : decode cX7_networkAt 2 = .ok (.invokevirtual 87, 3) := by decide +kernel
theorem dX7_networkAt_5 : decode cX7_networkAt 5 = .ok (.aload_n 0, 1) := by decide +kernel
theorem dX7_networkAt_6 : decode cX7_networkAt 6 = .ok (.getfield 15, 3) := by decide +kernel
theorem dX7_networkAt_9 : decode cX7_networkAt 9 = .ok (.iload_n 1, 1) := by decide +kernel
theorem dX7_networkAt_10 : decode cX7_networkAt 10 = .ok (.aaload, 1) := by decide +kernel
theorem dX7_networkAt_11 : decode cX7_networkAt 11 = .ok (.areturn, 1) := by decide +kernel
theorem dX7_receivedAt_0 : decode cX7_receivedAt 0 = .ok (.aload_n 0, 1) := by decide +kernel
theorem dX7_receivedAt_1 : decode cX7_receivedAt 1 = .ok (.iload_n 1, 1) := by decide +kernel
theorem dX7_receivedAt_2 : decode cX7_receivedAt 2 = .ok (.invokevirtual 126, 3) := by decide +kernel
theorem dX7_receivedAt_5 : decode cX7_receivedAt 5 = .ok (.aload_n 0, 1) := by decide +kernel
theorem dX7_receivedAt_6 : decode cX7_receivedAt 6 = .ok (.getfield 9, 3) := by decide +kernel
theorem dX7_receivedAt_9 : decode cX7_receivedAt 9 = .ok (.iload_n 1, 1) := by decide +kernel
theorem dX7_receivedAt_10 : decode cX7_receivedAt 10 = .ok (.iaload, 1) := by decide +kernel
theorem dX7_receivedAt_11 : decode cX7_receivedAt 11 = .ok (.ireturn, 1) := by decide +kernel
theorem dX7_subscriberAt_0 : decode cX7_subscriberAt 0 = .ok (.iload_n 1, 1) := by decide +kernel
theorem dX7_subscriberAt_1 : decode cX7_subscriberAt 1 = .ok (.ifCond .lt 14, 3) := by decide +kernel
theorem dX7_subscriberAt_4 : decode cX7_subscriberAt 4 = .ok (.iload_n 1, 1) := by decide +kernel
theorem dX7_subscriberAt_5 : decode cX7_subscriberAt 5 = .ok (.aload_n 0, 1) := by decide +kernel
theorem dX7_subscriberAt_6 : decode cX7_subscriberAt 6 = .ok (.getfield 32, 3) := by decide +kernel
theorem dX7_subscriberAt_9 : decode cX7_subscriberAt 9 = .ok (.invokevirtual 48, 3) := by decide +kernel
theorem dX7_subscriberAt_12 : decode cX7_subscriberAt 12 = .ok (.if_icmp .lt 14, 3) := by decide +kernel
theorem dX7_subscriberAt_15 : decode cX7_subscriberAt 15 = .ok (.new 243, 3) := by decide +kernel
theorem dX7_subscriberAt_18 : decode cX7_subscriberAt 18 = .ok (.dup, 1) := by decide +kernel
theorem dX7_subscriberAt_19 : decode cX7_subscriberAt 19 = .ok (.ldc_w 283, 3) := by decide +kernel
theorem dX7_subscriberAt_22 : decode cX7_subscriberAt 22 = .ok (.invokespecial 247, 3) := by decide +kernel
theorem dX7_subscriberAt_25 : decode cX7_subscriberAt 25 = .ok (.athrow, 1) := by decide +kernel
theorem dX7_subscriberAt_26 : decode cX7_subscriberAt 26 = .ok (.aload_n 0, 1) := by decide +kernel
theorem dX7_subscriberAt_27 : decode cX7_subscriberAt 27 = .ok (.getfield 32, 3) := by decide +kernel
theorem dX7_subscriberAt_30 : decode cX7_subscriberAt 30 = .ok (.iload_n 1, 1) := by decide +kernel
theorem dX7_subscriberAt_31 : decode cX7_subscriberAt 31 = .ok (.invokevirtual 52, 3) := by decide +kernel
theorem dX7_subscriberAt_34 : decode cX7_subscriberAt 34 = .ok (.checkcast 56, 3) := by decide +kernel
theorem dX7_subscriberAt_37 : decode cX7_subscriberAt 37 = .ok (.areturn, 1) := by decide +kernel
theorem dX7_accountOf_0 : decode cX7_accountOf 0 = .ok (.aload_n 0, 1) := by decide +kernel
theorem dX7_accountOf_1 : decode cX7_accountOf 1 = .ok (.iload_n 1, 1) := by decide +kernel
theorem dX7_accountOf_2 : decode cX7_accountOf 2 = .ok (.invokevirtual 87, 3) := by decide +kernel
theorem dX7_accountOf_5 : decode cX7_accountOf 5 = .ok (.aload_n 0, 1) := by decide +kernel
theorem dX7_accountOf_6 : decode cX7_accountOf 6 = .ok (.iload_n 2, 1) := by decide +kernel
theorem dX7_accountOf_7 : decode cX7_accountOf 7 = .ok (.invokevirtual 87, 3) := by decide +kernel
theorem dX7_accountOf_10 : decode cX7_accountOf 10 = .ok (.aload_n 0, 1) := by decide +kernel
theorem dX7_accountOf_11 : decode cX7_accountOf 11 = .ok (.getfield 21, 3) := by decide +kernel
theorem dX7_accountOf_14 : decode cX7_accountOf 14 = .ok (.iload_n 1, 1) := by decide +kernel
theorem dX7_accountOf_15 : decode cX7_accountOf 15 = .ok (.bipush 6, 2) := by decide +kernel
theorem dX7_accountOf_17 : decode cX7_accountOf 17 = .ok (.imul, 1) := by decide +kernel
theorem dX7_accountOf_18 : decode cX7_accountOf 18 = .ok (.iload_n 2, 1) := by decide +kernel
theorem dX7_accountOf_19 : decode cX7_accountOf 19 = .ok (.iadd, 1) := by decide +kernel
theorem dX7_accountOf_20 : decode cX7_accountOf 20 = .ok (.aaload, 1) := by decide +kernel
theorem dX7_accountOf_21 : decode cX7_accountOf 21 = .ok (.areturn, 1) := by decide +kernel
theorem dX7_isIn_0 : decode cX7_isIn 0 = .ok (.iload_n 0, 1) := by decide +kernel
theorem dX7_isIn_1 : decode cX7_isIn 1 = .ok (.iload_n 1, 1) := by decide +kernel
theorem dX7_isIn_2 : decode cX7_isIn 2 = .ok (.ishr, 1) := by decide +kernel
theorem dX7_isIn_3 : decode cX7_isIn 3 = .ok (.iconst 1, 1) := by decide +kernel
theorem dX7_isIn_4 : decode cX7_isIn 4 = .ok (.iand, 1) := by decide +kernel
theorem dX7_isIn_5 : decode cX7_isIn 5 = .ok (.iconst 1, 1) := by decide +kernel
theorem dX7_isIn_6 : decode cX7_isIn 6 = .ok (.if_icmp .ne 7, 3) := by decide +kernel
theorem dX7_isIn_9 : decode cX7_isIn 9 = .ok (.iconst 1, 1) := by decide +kernel
theorem dX7_isIn_10 : decode cX7_isIn 10 = .ok (.goto 4, 3) := by decide +kernel
theorem dX7_isIn_13 : decode cX7_isIn 13 = .ok (.iconst 0, 1) := by decide +kernel
theorem dX7_isIn_14 : decode cX7_isIn 14 = .ok (.ireturn, 1) := by decide +kernel
theorem dX7_detachIfNotReceived_0 : decode cX7_detachIfNotReceived 0 = .ok (.aload_n 1, 1) := by decide +kernel
theorem dX7_detachIfNotReceived_1 : decode cX7_detachIfNotReceived 1 = .ok (.getfield 142, 3) := by decide +kernel
theorem dX7_detachIfNotReceived_4 : decode cX7_detachIfNotReceived 4 = .ok (.iconst (-1), 1) := by decide +kernel
theorem dX7_detachIfNotReceived_5 : decode cX7_detachIfNotReceived 5 = .ok (.if_icmp .eq 26, 3) := by decide +kernel
theorem dX7_detachIfNotReceived_8 : decode cX7_detachIfNotReceived 8 = .ok (.aload_n 0, 1) := by decide +kernel
theorem dX7_detachIfNotReceived_9 : decode cX7_detachIfNotReceived 9 = .ok (.aload_n 1, 1) := by decide +kernel
theorem dX7_detachIfNotReceived_10 : decode cX7_detachIfNotReceived 10 = .ok (.getfield 58, 3) := by decide +kernel
theorem dX7_detachIfNotReceived_13 : decode cX7_detachIfNotReceived 13 = .ok (.invokevirtual 40, 3) := by decide +kernel
theorem dX7_detachIfNotReceived_16 : decode cX7_detachIfNotReceived 16 = .ok (.aload_n 1, 1) := by decide +kernel
theorem dX7_detachIfNotReceived_17 : decode cX7_detachIfNotReceived 17 = .ok (.getfield 142, 3) := by decide +kernel
theorem dX7_detachIfNotReceived_20 : decode cX7_detachIfNotReceived 20 = .ok (.invokestatic 167, 3) := by decide +kernel
theorem dX7_detachIfNotReceived_23 : decode cX7_detachIfNotReceived 23 = .ok (.ifCond .ne 8, 3) := by decide +kernel
theorem dX7_detachIfNotReceived_26 : decode cX7_detachIfNotReceived 26 = .ok (.aload_n 1, 1) := by decide +kernel
theorem dX7_detachIfNotReceived_27 : decode cX7_detachIfNotReceived 27 = .ok (.iconst (-1), 1) := by decide +kernel
theorem dX7_detachIfNotReceived_28 : decode cX7_detachIfNotReceived 28 = .ok (.putfield 142, 3) := by decide +kernel
theorem dX7_detachIfNotReceived_31 : decode cX7_detachIfNotReceived 31 = .ok (.return_, 1) := by decide +kernel
theorem dX7_detachAllFrom_0 : decode cX7_detachAllFrom 0 = .ok (.iconst 0, 1) := by decide +kernel
theorem dX7_detachAllFrom_1 : decode cX7_detachAllFrom 1 = .ok (.istore_n 2, 1) := by decide +kernel
theorem dX7_detachAllFrom_2 : decode cX7_detachAllFrom 2 = .ok (.iload_n 2, 1) := by decide +kernel
theorem dX7_detachAllFrom_3 : decode cX7_detachAllFrom 3 = .ok (.aload_n 0, 1) := by decide +kernel
theorem dX7_detachAllFrom_4 : decode cX7_detachAllFrom 4 = .ok (.getfield 32, 3) := by decide +kernel
theorem dX7_detachAllFrom_7 : decode cX7_detachAllFrom 7 = .ok (.invokevirtual 48, 3) := by decide +kernel
theorem dX7_detachAllFrom_10 : decode cX7_detachAllFrom 10 = .ok (.if_icmp .ge 34, 3) := by decide +kernel
theorem dX7_detachAllFrom_13 : decode cX7_detachAllFrom 13 = .ok (.aload_n 0, 1) := by decide +kernel
theorem dX7_detachAllFrom_14 : decode cX7_detachAllFrom 14 = .ok (.getfield 32, 3) := by decide +kernel
theorem dX7_detachAllFrom_17 : decode cX7_detachAllFrom 17 = .ok (.iload_n 2, 1) := by decide +kernel
theorem dX7_detachAllFrom_18 : decode cX7_detachAllFrom 18 = .ok (.invokevirtual 52, 3) := by decide +kernel
theorem dX7_detachAllFrom_21 : decode cX7_detachAllFrom 21 = .ok (.checkcast 56, 3) := by decide +kernel
theorem dX7_detachAllFrom_24 : decode cX7_detachAllFrom 24 = .ok (.astore_n 3, 1) := by decide +kernel
theorem dX7_detachAllFrom_25 : decode cX7_detachAllFrom 25 = .ok (.aload_n 3, 1) := by decide +kernel
theorem dX7_detachAllFrom_26 : decode cX7_detachAllFrom 26 = .ok (.getfield 142, 3) := by decide +kernel
theorem dX7_detachAllFrom_29 : decode cX7_detachAllFrom 29 = .ok (.iload_n 1, 1) := by decide +kernel
theorem dX7_detachAllFrom_30 : decode cX7_detachAllFrom 30 = .ok (.if_icmp .ne 8, 3) := by decide +kernel
theorem dX7_detachAllFrom_33 : decode cX7_detachAllFrom 33 = .ok (.aload_n 3, 1) := by decide +kernel
theorem dX7_detachAllFrom_34 : decode cX7_detachAllFrom 34 = .ok (.iconst (-1), 1) := by decide +kernel
theorem dX7_detachAllFrom_35 : decode cX7_detachAllFrom 35 = .ok (.putfield 142, 3) := by decide +kernel
theorem dX7_detachAllFrom_38 : decode cX7_detachAllFrom 38 = .ok (.iinc 2 1, 3) := by decide +kernel
theorem dX7_detachAllFrom_41 : decode cX7_detachAllFrom 41 = .ok (.goto (-39), 3) := by decide +kernel
theorem dX7_detachAllFrom_44 : decode cX7_detachAllFrom 44 = .ok (.return_, 1) := by decide +kernel
theorem dX7_agreementNow_0 : decode cX7_agreementNow 0 = .ok (.aload_n 0, 1) := by decide +kernel
theorem dX7_agreementNow_1 : decode cX7_agreementNow 1 = .ok (.getfield 28, 3) := by decide +kernel
theorem dX7_agreementNow_4 : decode cX7_agreementNow 4 = .ok (.invokevirtual 48, 3) := by decide +kernel
theorem dX7_agreementNow_7 : decode cX7_agreementNow 7 = .ok (.iconst 1, 1) := by decide +kernel
theorem dX7_agreementNow_8 : decode cX7_agreementNow 8 = .ok (.isub, 1) := by decide +kernel
theorem dX7_agreementNow_9 : decode cX7_agreementNow 9 = .ok (.istore_n 3, 1) := by decide +kernel
theorem dX7_agreementNow_10 : decode cX7_agreementNow 10 = .ok (.iload_n 3, 1) := by decide +kernel
theorem dX7_agreementNow_11 : decode cX7_agreementNow 11 = .ok (.ifCond .lt 39, 3) := by decide +kernel
theorem dX7_agreementNow_14 : decode cX7_agreementNow 14 = .ok (.aload_n 0, 1) := by decide +kernel
theorem dX7_agreementNow_15 : decode cX7_agreementNow 15 = .ok (.getfield 28, 3) := by decide +kernel
theorem dX7_agreementNow_18 : decode cX7_agreementNow 18 = .ok (.iload_n 3, 1) := by decide +kernel
theorem dX7_agreementNow_19 : decode cX7_agreementNow 19 = .ok (.invokevirtual 52, 3) := by decide +kernel
theorem dX7_agreementNow_22 : decode cX7_agreementNow 22 = .ok (.checkcast 99, 3) := by decide +kernel
theorem dX7_agreementNow_25 : decode cX7_agreementNow 25 = .ok (.astore 4, 2) := by decide +kernel
theorem dX7_agreementNow_27 : decode cX7_agreementNow 27 = .ok (.aload 4, 2) := by decide +kernel
theorem dX7_agreementNow_29 : decode cX7_agreementNow 29 = .ok (.iload_n 1, 1) := by decide +kernel
theorem dX7_agreementNow_30 : decode cX7_agreementNow 30 = .ok (.iload_n 2, 1) := by decide +kernel
theorem dX7_agreementNow_31 : decode cX7_agreementNow 31 = .ok (.aload_n 0, 1) := by decide +kernel
theorem dX7_agreementNow_32 : decode cX7_agreementNow 32 = .ok (.getfield 160, 3) := by decide +kernel
theorem dX7_agreementNow_35 : decode cX7_agreementNow 35 = .ok (.invokevirtual 285, 3) := by decide +kernel
theorem dX7_agreementNow_38 : decode cX7_agreementNow 38 = .ok (.ifCond .eq 6, 3) := by decide +kernel
theorem dX7_agreementNow_41 : decode cX7_agreementNow 41 = .ok (.aload 4, 2) := by decide +kernel
theorem dX7_agreementNow_43 : decode cX7_agreementNow 43 = .ok (.areturn, 1) := by decide +kernel
theorem dX7_agreementNow_44 : decode cX7_agreementNow 44 = .ok (.iinc 3 (-1), 3) := by decide +kernel
theorem dX7_agreementNow_47 : decode cX7_agreementNow 47 = .ok (.goto (-37), 3) := by decide +kernel
theorem dX7_agreementNow_50 : decode cX7_agreementNow 50 = .ok (.aconst_null, 1) := by decide +kernel
theorem dX7_agreementNow_51 : decode cX7_agreementNow 51 = .ok (.areturn, 1) := by decide +kernel
theorem dX7_whyNotUsable_0 : decode cX7_whyNotUsable 0 = .ok (.aload_n 0, 1) := by decide +kernel
theorem dX7_whyNotUsable_1 : decode cX7_whyNotUsable 1 = .ok (.aload_n 1, 1) := by decide +kernel
theorem dX7_whyNotUsable_2 : decode cX7_whyNotUsable 2 = .ok (.getfield 58, 3) := by decide +kernel
theorem dX7_whyNotUsable_5 : decode cX7_whyNotUsable 5 = .ok (.invokevirtual 40, 3) := by decide +kernel
theorem dX7_whyNotUsable_8 : decode cX7_whyNotUsable 8 = .ok (.iload_n 2, 1) := by decide +kernel
theorem dX7_whyNotUsable_9 : decode cX7_whyNotUsable 9 = .ok (.invokestatic 167, 3) := by decide +kernel
theorem dX7_whyNotUsable_12 : decode cX7_whyNotUsable 12 = .ok (.ifCond .ne 5, 3) := by decide +kernel
theorem dX7_whyNotUsable_15 : decode cX7_whyNotUsable 15 = .ok (.iconst 1, 1) := by decide +kernel
theorem dX7_whyNotUsable_16 : decode cX7_whyNotUsable 16 = .ok (.ireturn, 1) := by decide +kernel
theorem dX7_whyNotUsable_17 : decode cX7_whyNotUsable 17 = .ok (.aload_n 0, 1) := by decide +kernel
theorem dX7_whyNotUsable_18 : decode cX7_whyNotUsable 18 = .ok (.iload_n 2, 1) := by decide +kernel
theorem dX7_whyNotUsable_19 : decode cX7_whyNotUsable 19 = .ok (.invokevirtual 66, 3) := by decide +kernel
theorem dX7_whyNotUsable_22 : decode cX7_whyNotUsable 22 = .ok (.getfield 70, 3) := by decide +kernel
theorem dX7_whyNotUsable_25 : decode cX7_whyNotUsable 25 = .ok (.ifCond .eq 5, 3) := by decide +kernel
theorem dX7_whyNotUsable_28 : decode cX7_whyNotUsable 28 = .ok (.iconst 2, 1) := by decide +kernel
theorem dX7_whyNotUsable_29 : decode cX7_whyNotUsable 29 = .ok (.ireturn, 1) := by decide +kernel
theorem dX7_whyNotUsable_30 : decode cX7_whyNotUsable 30 = .ok (.aload_n 1, 1) := by decide +kernel
theorem dX7_whyNotUsable_31 : decode cX7_whyNotUsable 31 = .ok (.getfield 289, 3) := by decide +kernel
theorem dX7_whyNotUsable_34 : decode cX7_whyNotUsable 34 = .ok (.iload_n 2, 1) := by decide +kernel
theorem dX7_whyNotUsable_35 : decode cX7_whyNotUsable 35 = .ok (.invokestatic 167, 3) := by decide +kernel
theorem dX7_whyNotUsable_38 : decode cX7_whyNotUsable 38 = .ok (.ifCond .eq 5, 3) := by decide +kernel
theorem dX7_whyNotUsable_41 : decode cX7_whyNotUsable 41 = .ok (.iconst 3, 1) := by decide +kernel
theorem dX7_whyNotUsable_42 : decode cX7_whyNotUsable 42 = .ok (.ireturn, 1) := by decide +kernel
theorem dX7_whyNotUsable_43 : decode cX7_whyNotUsable 43 = .ok (.iload_n 2, 1) := by decide +kernel
theorem dX7_whyNotUsable_44 : decode cX7_whyNotUsable 44 = .ok (.aload_n 1, 1) := by decide +kernel
theorem dX7_whyNotUsable_45 : decode cX7_whyNotUsable 45 = .ok (.getfield 292, 3) := by decide +kernel
theorem dX7_whyNotUsable_48 : decode cX7_whyNotUsable 48 = .ok (.if_icmp .eq 17, 3) := by decide +kernel
theorem dX7_whyNotUsable_51 : decode cX7_whyNotUsable 51 = .ok (.aload_n 0, 1) := by decide +kernel
theorem dX7_whyNotUsable_52 : decode cX7_whyNotUsable 52 = .ok (.aload_n 1, 1) := by decide +kernel
theorem dX7_whyNotUsable_53 : decode cX7_whyNotUsable 53 = .ok (.getfield 292, 3) := by decide +kernel
theorem dX7_whyNotUsable_56 : decode cX7_whyNotUsable 56 = .ok (.iload_n 2, 1) := by decide +kernel
theorem dX7_whyNotUsable_57 : decode cX7_whyNotUsable 57 = .ok (.invokevirtual 295, 3) := by decide +kernel
theorem dX7_whyNotUsable_60 : decode cX7_whyNotUsable 60 = .ok (.ifnonnull 5, 3) := by decide +kernel
theorem dX7_whyNotUsable_63 : decode cX7_whyNotUsable 63 = .ok (.iconst 4, 1) := by decide +kernel
theorem dX7_whyNotUsable_64 : decode cX7_whyNotUsable 64 = .ok (.ireturn, 1) := by decide +kernel
theorem dX7_whyNotUsable_65 : decode cX7_whyNotUsable 65 = .ok (.iconst 0, 1) := by decide +kernel
theorem dX7_whyNotUsable_66 : decode cX7_whyNotUsable 66 = .ok (.ireturn, 1) := by decide +kernel
theorem dX7_isSteered_0 : decode cX7_isSteered 0 = .ok (.aload_n 0, 1) := by decide +kernel
theorem dX7_isSteered_1 : decode cX7_isSteered 1 = .ok (.aload_n 1, 1) := by decide +kernel
theorem dX7_isSteered_2 : decode cX7_isSteered 2 = .ok (.getfield 292, 3) := by decide +kernel
theorem dX7_isSteered_5 : decode cX7_isSteered 5 = .ok (.invokevirtual 66, 3) := by decide +kernel
theorem dX7_isSteered_8 : decode cX7_isSteered 8 = .ok (.getfield 108, 3) := by decide +kernel
theorem dX7_isSteered_11 : decode cX7_isSteered 11 = .ok (.istore_n 3, 1) := by decide +kernel
theorem dX7_isSteered_12 : decode cX7_isSteered 12 = .ok (.iload_n 3, 1) := by decide +kernel
theorem dX7_isSteered_13 : decode cX7_isSteered 13 = .ok (.iconst (-1), 1) := by decide +kernel
theorem dX7_isSteered_14 : decode cX7_isSteered 14 = .ok (.if_icmp .eq 29, 3) := by decide +kernel
theorem dX7_isSteered_17 : decode cX7_isSteered 17 = .ok (.iload_n 3, 1) := by decide +kernel
theorem dX7_isSteered_18 : decode cX7_isSteered 18 = .ok (.iload_n 2, 1) := by decide +kernel
theorem dX7_isSteered_19 : decode cX7_isSteered 19 = .ok (.if_icmp .eq 24, 3) := by decide +kernel
theorem dX7_isSteered_22 : decode cX7_isSteered 22 = .ok (.aload_n 1, 1) := by decide +kernel
theorem dX7_isSteered_23 : decode cX7_isSteered 23 = .ok (.getfield 139, 3) := by decide +kernel
theorem dX7_isSteered_26 : decode cX7_isSteered 26 = .ok (.iconst 2, 1) := by decide +kernel
theorem dX7_isSteered_27 : decode cX7_isSteered 27 = .ok (.if_icmp .ge 16, 3) := by decide +kernel
theorem dX7_isSteered_30 : decode cX7_isSteered 30 = .ok (.aload_n 0, 1) := by decide +kernel
theorem dX7_isSteered_31 : decode cX7_isSteered 31 = .ok (.aload_n 1, 1) := by decide +kernel
theorem dX7_isSteered_32 : decode cX7_isSteered 32 = .ok (.iload_n 3, 1) := by decide +kernel
theorem dX7_isSteered_33 : decode cX7_isSteered 33 = .ok (.invokevirtual 152, 3) := by decide +kernel
theorem dX7_isSteered_36 : decode cX7_isSteered 36 = .ok (.ifCond .ne 7, 3) := by decide +kernel
theorem dX7_isSteered_39 : decode cX7_isSteered 39 = .ok (.iconst 1, 1) := by decide +kernel
theorem dX7_isSteered_40 : decode cX7_isSteered 40 = .ok (.goto 4, 3) := by decide +kernel
theorem dX7_isSteered_43 : decode cX7_isSteered 43 = .ok (.iconst 0, 1) := by decide +kernel
theorem dX7_isSteered_44 : decode cX7_isSteered 44 = .ok (.ireturn, 1) := by decide +kernel
theorem dX7_makeContact_0 : decode cX7_makeContact 0 = .ok (.aload_n 0, 1) := by decide +kernel
theorem dX7_makeContact_1 : decode cX7_makeContact 1 = .ok (.aload_n 1, 1) := by decide +kernel
theorem dX7_makeContact_2 : decode cX7_makeContact 2 = .ok (.getfield 142, 3) := by decide +kernel
theorem dX7_makeContact_5 : decode cX7_makeContact 5 = .ok (.invokevirtual 66, 3) := by decide +kernel
theorem dX7_makeContact_8 : decode cX7_makeContact 8 = .ok (.astore_n 3, 1) := by decide +kernel
theorem dX7_makeContact_9 : decode cX7_makeContact 9 = .ok (.aload_n 3, 1) := by decide +kernel
theorem dX7_makeContact_10 : decode cX7_makeContact 10 = .ok (.getfield 74, 3) := by decide +kernel
theorem dX7_makeContact_13 : decode cX7_makeContact 13 = .ok (.aload_n 1, 1) := by decide +kernel
theorem dX7_makeContact_14 : decode cX7_makeContact 14 = .ok (.getfield 132, 3) := by decide +kernel
theorem dX7_makeContact_17 : decode cX7_makeContact 17 = .ok (.iload_n 2, 1) := by decide +kernel
theorem dX7_makeContact_18 : decode cX7_makeContact 18 = .ok (.invokevirtual 299, 3) := by decide +kernel
theorem dX7_makeContact_21 : decode cX7_makeContact 21 = .ok (.aload_n 3, 1) := by decide +kernel
theorem dX7_makeContact_22 : decode cX7_makeContact 22 = .ok (.getfield 120, 3) := by decide +kernel
theorem dX7_makeContact_25 : decode cX7_makeContact 25 = .ok (.ifCond .le 14, 3) := by decide +kernel
theorem dX7_makeContact_28 : decode cX7_makeContact 28 = .ok (.aload_n 3, 1) := by decide +kernel
theorem dX7_makeContact_29 : decode cX7_makeContact 29 = .ok (.dup, 1) := by decide +kernel
theorem dX7_makeContact_30 : decode cX7_makeContact 30 = .ok (.getfield 120, 3) := by decide +kernel
theorem dX7_makeContact_33 : decode cX7_makeContact 33 = .ok (.iconst 1, 1) := by decide +kernel
theorem dX7_makeContact_34 : decode cX7_makeContact 34 = .ok (.isub, 1) := by decide +kernel
theorem dX7_makeContact_35 : decode cX7_makeContact 35 = .ok (.putfield 120, 3) := by decide +kernel
theorem dX7_makeContact_38 : decode cX7_makeContact 38 = .ok (.return_, 1) := by decide +kernel
theorem dX7_makeContact_39 : decode cX7_makeContact 39 = .ok (.aload_n 1, 1) := by decide +kernel
theorem dX7_makeContact_40 : decode cX7_makeContact 40 = .ok (.getfield 171, 3) := by decide +kernel
theorem dX7_makeContact_43 : decode cX7_makeContact 43 = .ok (.iconst (-1), 1) := by decide +kernel
theorem dX7_makeContact_44 : decode cX7_makeContact 44 = .ok (.if_icmp .eq 32, 3) := by decide +kernel
theorem dX7_makeContact_47 : decode cX7_makeContact 47 = .ok (.aload_n 1, 1) := by decide +kernel
theorem dX7_makeContact_48 : decode cX7_makeContact 48 = .ok (.getfield 171, 3) := by decide +kernel
theorem dX7_makeContact_51 : decode cX7_makeContact 51 = .ok (.aload_n 1, 1) := by decide +kernel
theorem dX7_makeContact_52 : decode cX7_makeContact 52 = .ok (.getfield 142, 3) := by decide +kernel
theorem dX7_makeContact_55 : decode cX7_makeContact 55 = .ok (.if_icmp .eq 21, 3) := by decide +kernel
theorem dX7_makeContact_58 : decode cX7_makeContact 58 = .ok (.aload_n 0, 1) := by decide +kernel
theorem dX7_makeContact_59 : decode cX7_makeContact 59 = .ok (.aload_n 1, 1) := by decide +kernel
theorem dX7_makeContact_60 : decode cX7_makeContact 60 = .ok (.getfield 171, 3) := by decide +kernel
theorem dX7_makeContact_63 : decode cX7_makeContact 63 = .ok (.invokevirtual 66, 3) := by decide +kernel
theorem dX7_makeContact_66 : decode cX7_makeContact 66 = .ok (.getfield 74, 3) := by decide +kernel
theorem dX7_makeContact_69 : decode cX7_makeContact 69 = .ok (.aload_n 1, 1) := by decide +kernel
theorem dX7_makeContact_70 : decode cX7_makeContact 70 = .ok (.getfield 132, 3) := by decide +kernel
theorem dX7_makeContact_73 : decode cX7_makeContact 73 = .ok (.invokevirtual 302, 3) := by decide +kernel
theorem dX7_makeContact_76 : decode cX7_makeContact 76 = .ok (.aload_n 1, 1) := by decide +kernel
theorem dX7_makeContact_77 : decode cX7_makeContact 77 = .ok (.aload_n 1, 1) := by decide +kernel
theorem dX7_makeContact_78 : decode cX7_makeContact 78 = .ok (.getfield 142, 3) := by decide +kernel
theorem dX7_makeContact_81 : decode cX7_makeContact 81 = .ok (.putfield 171, 3) := by decide +kernel
theorem dX7_makeContact_84 : decode cX7_makeContact 84 = .ok (.return_, 1) := by decide +kernel
theorem dX7_beginHours_0 : decode cX7_beginHours 0 = .ok (.iload_n 2, 1) := by decide +kernel
theorem dX7_beginHours_1 : decode cX7_beginHours 1 = .ok (.iload_n 1, 1) := by decide +kernel
theorem dX7_beginHours_2 : decode cX7_beginHours 2 = .ok (.bipush 12, 2) := by decide +kernel
theorem dX7_beginHours_4 : decode cX7_beginHours 4 = .ok (.iadd, 1) := by decide +kernel
theorem dX7_beginHours_5 : decode cX7_beginHours 5 = .ok (.iconst 1, 1) := by decide +kernel
theorem dX7_beginHours_6 : decode cX7_beginHours 6 = .ok (.isub, 1) := by decide +kernel
theorem dX7_beginHours_7 : decode cX7_beginHours 7 = .ok (.invokestatic 305, 3) := by decide +kernel
theorem dX7_beginHours_10 : decode cX7_beginHours 10 = .ok (.istore_n 3, 1) := by decide +kernel
theorem dX7_beginHours_11 : decode cX7_beginHours 11 = .ok (.iload_n 1, 1) := by decide +kernel
theorem dX7_beginHours_12 : decode cX7_beginHours 12 = .ok (.istore 4, 2) := by decide +kernel
theorem dX7_beginHours_14 : decode cX7_beginHours 14 = .ok (.iload 4, 2) := by decide +kernel
theorem dX7_beginHours_16 : decode cX7_beginHours 16 = .ok (.iload_n 3, 1) := by decide +kernel
theorem dX7_beginHours_17 : decode cX7_beginHours 17 = .ok (.if_icmp .gt 18, 3) := by decide +kernel
theorem dX7_beginHours_20 : decode cX7_beginHours 20 = .ok (.aload_n 0, 1) := by decide +kernel
theorem dX7_beginHours_21 : decode cX7_beginHours 21 = .ok (.iload 4, 2) := by decide +kernel
theorem dX7_beginHours_23 : decode cX7_beginHours 23 = .ok (.bipush 60, 2) := by decide +kernel
theorem dX7_beginHours_25 : decode cX7_beginHours 25 = .ok (.imul, 1) := by decide +kernel
theorem dX7_beginHours_26 : decode cX7_beginHours 26 = .ok (.invokevirtual 311, 3) := by decide +kernel
theorem dX7_beginHours_29 : decode cX7_beginHours 29 = .ok (.iinc 4 1, 3) := by decide +kernel
theorem dX7_beginHours_32 : decode cX7_beginHours 32 = .ok (.goto (-18), 3) := by decide +kernel
theorem dX7_beginHours_35 : decode cX7_beginHours 35 = .ok (.iload_n 3, 1) := by decide +kernel
theorem dX7_beginHours_36 : decode cX7_beginHours 36 = .ok (.iload_n 2, 1) := by decide +kernel
theorem dX7_beginHours_37 : decode cX7_beginHours 37 = .ok (.if_icmp .ge 11, 3) := by decide +kernel
theorem dX7_beginHours_40 : decode cX7_beginHours 40 = .ok (.aload_n 0, 1) := by decide +kernel
theorem dX7_beginHours_41 : decode cX7_beginHours 41 = .ok (.iload_n 2, 1) := by decide +kernel
theorem dX7_beginHours_42 : decode cX7_beginHours 42 = .ok (.bipush 60, 2) := by decide +kernel
theorem dX7_beginHours_44 : decode cX7_beginHours 44 = .ok (.imul, 1) := by decide +kernel
theorem dX7_beginHours_45 : decode cX7_beginHours 45 = .ok (.invokevirtual 311, 3) := by decide +kernel
theorem dX7_beginHours_48 : decode cX7_beginHours 48 = .ok (.return_, 1) := by decide +kernel
theorem dX7_beginHour_0 : decode cX7_beginHour 0 = .ok (.iconst 0, 1) := by decide +kernel
theorem dX7_beginHour_1 : decode cX7_beginHour 1 = .ok (.istore_n 2, 1) := by decide +kernel
theorem dX7_beginHour_2 : decode cX7_beginHour 2 = .ok (.iload_n 2, 1) := by decide +kernel
theorem dX7_beginHour_3 : decode cX7_beginHour 3 = .ok (.aload_n 0, 1) := by decide +kernel
theorem dX7_beginHour_4 : decode cX7_beginHour 4 = .ok (.getfield 32, 3) := by decide +kernel
theorem dX7_beginHour_7 : decode cX7_beginHour 7 = .ok (.invokevirtual 48, 3) := by decide +kernel
theorem dX7_beginHour_10 : decode cX7_beginHour 10 = .ok (.if_icmp .ge 35, 3) := by decide +kernel
theorem dX7_beginHour_13 : decode cX7_beginHour 13 = .ok (.aload_n 0, 1) := by decide +kernel
theorem dX7_beginHour_14 : decode cX7_beginHour 14 = .ok (.getfield 32, 3) := by decide +kernel
theorem dX7_beginHour_17 : decode cX7_beginHour 17 = .ok (.iload_n 2, 1) := by decide +kernel
theorem dX7_beginHour_18 : decode cX7_beginHour 18 = .ok (.invokevirtual 52, 3) := by decide +kernel
theorem dX7_beginHour_21 : decode cX7_beginHour 21 = .ok (.checkcast 56, 3) := by decide +kernel
theorem dX7_beginHour_24 : decode cX7_beginHour 24 = .ok (.astore_n 3, 1) := by decide +kernel
theorem dX7_beginHour_25 : decode cX7_beginHour 25 = .ok (.aload_n 3, 1) := by decide +kernel
theorem dX7_beginHour_26 : decode cX7_beginHour 26 = .ok (.getfield 142, 3) := by decide +kernel
theorem dX7_beginHour_29 : decode cX7_beginHour 29 = .ok (.iconst (-1), 1) := by decide +kernel
theorem dX7_beginHour_30 : decode cX7_beginHour 30 = .ok (.if_icmp .eq 9, 3) := by decide +kernel
theorem dX7_beginHour_33 : decode cX7_beginHour 33 = .ok (.aload_n 0, 1) := by decide +kernel
theorem dX7_beginHour_34 : decode cX7_beginHour 34 = .ok (.aload_n 3, 1) := by decide +kernel
theorem dX7_beginHour_35 : decode cX7_beginHour 35 = .ok (.iload_n 1, 1) := by decide +kernel
theorem dX7_beginHour_36 : decode cX7_beginHour 36 = .ok (.invokevirtual 163, 3) := by decide +kernel
theorem dX7_beginHour_39 : decode cX7_beginHour 39 = .ok (.iinc 2 1, 3) := by decide +kernel
theorem dX7_beginHour_42 : decode cX7_beginHour 42 = .ok (.goto (-40), 3) := by decide +kernel
theorem dX7_beginHour_45 : decode cX7_beginHour 45 = .ok (.iconst 0, 1) := by decide +kernel
theorem dX7_beginHour_46 : decode cX7_beginHour 46 = .ok (.istore_n 2, 1) := by decide +kernel
theorem dX7_beginHour_47 : decode cX7_beginHour 47 = .ok (.iload_n 2, 1) := by decide +kernel
theorem dX7_beginHour_48 : decode cX7_beginHour 48 = .ok (.aload_n 0, 1) := by decide +kernel
theorem dX7_beginHour_49 : decode cX7_beginHour 49 = .ok (.getfield 15, 3) := by decide +kernel
theorem dX7_beginHour_52 : decode cX7_beginHour 52 = .ok (.arraylength, 1) := by decide +kernel
theorem dX7_beginHour_53 : decode cX7_beginHour 53 = .ok (.if_icmp .ge 26, 3) := by decide +kernel
theorem dX7_beginHour_56 : decode cX7_beginHour 56 = .ok (.aload_n 0, 1) := by decide +kernel
theorem dX7_beginHour_57 : decode cX7_beginHour 57 = .ok (.getfield 15, 3) := by decide +kernel
theorem dX7_beginHour_60 : decode cX7_beginHour 60 = .ok (.iload_n 2, 1) := by decide +kernel
theorem dX7_beginHour_61 : decode cX7_beginHour 61 = .ok (.aaload, 1) := by decide +kernel
theorem dX7_beginHour_62 : decode cX7_beginHour 62 = .ok (.getfield 74, 3) := by decide +kernel
theorem dX7_beginHour_65 : decode cX7_beginHour 65 = .ok (.iload_n 1, 1) := by decide +kernel
theorem dX7_beginHour_66 : decode cX7_beginHour 66 = .ok (.sipush 180, 3) := by decide +kernel
theorem dX7_beginHour_69 : decode cX7_beginHour 69 = .ok (.isub, 1) := by decide +kernel
theorem dX7_beginHour_70 : decode cX7_beginHour 70 = .ok (.invokevirtual 314, 3) := by decide +kernel
theorem dX7_beginHour_73 : decode cX7_beginHour 73 = .ok (.iinc 2 1, 3) := by decide +kernel
theorem dX7_beginHour_76 : decode cX7_beginHour 76 = .ok (.goto (-29), 3) := by decide +kernel
theorem dX7_beginHour_79 : decode cX7_beginHour 79 = .ok (.return_, 1) := by decide +kernel
theorem dX7_beginMonth_0 : decode cX7_beginMonth 0 = .ok (.iconst 0, 1) := by decide +kernel
theorem dX7_beginMonth_1 : decode cX7_beginMonth 1 = .ok (.istore_n 1, 1) := by decide +kernel
theorem dX7_beginMonth_2 : decode cX7_beginMonth 2 = .ok (.iload_n 1, 1) := by decide +kernel
theorem dX7_beginMonth_3 : decode cX7_beginMonth 3 = .ok (.aload_n 0, 1) := by decide +kernel
theorem dX7_beginMonth_4 : decode cX7_beginMonth 4 = .ok (.getfield 32, 3) := by decide +kernel
theorem dX7_beginMonth_7 : decode cX7_beginMonth 7 = .ok (.invokevirtual 48, 3) := by decide +kernel
theorem dX7_beginMonth_10 : decode cX7_beginMonth 10 = .ok (.if_icmp .ge 24, 3) := by decide +kernel
theorem dX7_beginMonth_13 : decode cX7_beginMonth 13 = .ok (.aload_n 0, 1) := by decide +kernel
theorem dX7_beginMonth_14 : decode cX7_beginMonth 14 = .ok (.getfield 32, 3) := by decide +kernel
theorem dX7_beginMonth_17 : decode cX7_beginMonth 17 = .ok (.iload_n 1, 1) := by decide +kernel
theorem dX7_beginMonth_18 : decode cX7_beginMonth 18 = .ok (.invokevirtual 52, 3) := by decide +kernel
theorem dX7_beginMonth_21 : decode cX7_beginMonth 21 = .ok (.checkcast 56, 3) := by decide +kernel
theorem dX7_beginMonth_24 : decode cX7_beginMonth 24 = .ok (.iconst 0, 1) := by decide +kernel
theorem dX7_beginMonth_25 : decode cX7_beginMonth 25 = .ok (.putfield 184, 3) := by decide +kernel
theorem dX7_beginMonth_28 : decode cX7_beginMonth 28 = .ok (.iinc 1 1, 3) := by decide +kernel
theorem dX7_beginMonth_31 : decode cX7_beginMonth 31 = .ok (.goto (-29), 3) := by decide +kernel
theorem dX7_beginMonth_34 : decode cX7_beginMonth 34 = .ok (.return_, 1) := by decide +kernel
theorem dX7_whyNotFound_0 : decode cX7_whyNotFound 0 = .ok (.aload_n 1, 1) := by decide +kernel
theorem dX7_whyNotFound_1 : decode cX7_whyNotFound 1 = .ok (.getfield 142, 3) := by decide +kernel
theorem dX7_whyNotFound_4 : decode cX7_whyNotFound 4 = .ok (.iconst (-1), 1) := by decide +kernel
theorem dX7_whyNotFound_5 : decode cX7_whyNotFound 5 = .ok (.if_icmp .ne 5, 3) := by decide +kernel
theorem dX7_whyNotFound_8 : decode cX7_whyNotFound 8 = .ok (.iconst 1, 1) := by decide +kernel
theorem dX7_whyNotFound_9 : decode cX7_whyNotFound 9 = .ok (.ireturn, 1) := by decide +kernel
theorem dX7_whyNotFound_10 : decode cX7_whyNotFound 10 = .ok (.aload_n 2, 1) := by decide +kernel
theorem dX7_whyNotFound_11 : decode cX7_whyNotFound 11 = .ok (.getfield 171, 3) := by decide +kernel
theorem dX7_whyNotFound_14 : decode cX7_whyNotFound 14 = .ok (.iconst (-1), 1) := by decide +kernel
theorem dX7_whyNotFound_15 : decode cX7_whyNotFound 15 = .ok (.if_icmp .ne 5, 3) := by decide +kernel
theorem dX7_whyNotFound_18 : decode cX7_whyNotFound 18 = .ok (.iconst 2, 1) := by decide +kernel
theorem dX7_whyNotFound_19 : decode cX7_whyNotFound 19 = .ok (.ireturn, 1) := by decide +kernel
theorem dX7_whyNotFound_20 : decode cX7_whyNotFound 20 = .ok (.aload_n 0, 1) := by decide +kernel
theorem dX7_whyNotFound_21 : decode cX7_whyNotFound 21 = .ok (.aload_n 2, 1) := by decide +kernel
theorem dX7_whyNotFound_22 : decode cX7_whyNotFound 22 = .ok (.getfield 171, 3) := by decide +kernel
theorem dX7_whyNotFound_25 : decode cX7_whyNotFound 25 = .ok (.invokevirtual 66, 3) := by decide +kernel
theorem dX7_whyNotFound_28 : decode cX7_whyNotFound 28 = .ok (.getfield 74, 3) := by decide +kernel
theorem dX7_whyNotFound_31 : decode cX7_whyNotFound 31 = .ok (.aload_n 2, 1) := by decide +kernel
theorem dX7_whyNotFound_32 : decode cX7_whyNotFound 32 = .ok (.getfield 132, 3) := by decide +kernel
theorem dX7_whyNotFound_35 : decode cX7_whyNotFound 35 = .ok (.invokevirtual 177, 3) := by decide +kernel
theorem dX7_whyNotFound_38 : decode cX7_whyNotFound 38 = .ok (.ifCond .ne 5, 3) := by decide +kernel
theorem dX7_whyNotFound_41 : decode cX7_whyNotFound 41 = .ok (.iconst 3, 1) := by decide +kernel
theorem dX7_whyNotFound_42 : decode cX7_whyNotFound 42 = .ok (.ireturn, 1) := by decide +kernel
theorem dX7_whyNotFound_43 : decode cX7_whyNotFound 43 = .ok (.aload_n 2, 1) := by decide +kernel
theorem dX7_whyNotFound_44 : decode cX7_whyNotFound 44 = .ok (.getfield 142, 3) := by decide +kernel
theorem dX7_whyNotFound_47 : decode cX7_whyNotFound 47 = .ok (.aload_n 2, 1) := by decide +kernel
theorem dX7_whyNotFound_48 : decode cX7_whyNotFound 48 = .ok (.getfield 171, 3) := by decide +kernel
theorem dX7_whyNotFound_51 : decode cX7_whyNotFound 51 = .ok (.if_icmp .ne 7, 3) := by decide +kernel
theorem dX7_whyNotFound_54 : decode cX7_whyNotFound 54 = .ok (.iconst 0, 1) := by decide +kernel
theorem dX7_whyNotFound_55 : decode cX7_whyNotFound 55 = .ok (.goto 4, 3) := by decide +kernel
theorem dX7_whyNotFound_58 : decode cX7_whyNotFound 58 = .ok (.iconst 4, 1) := by decide +kernel
theorem dX7_whyNotFound_59 : decode cX7_whyNotFound 59 = .ok (.ireturn, 1) := by decide +kernel
theorem dX7_priceOfCalling_0 : decode cX7_priceOfCalling 0 = .ok (.aload_n 0, 1) := by decide +kernel
theorem dX7_priceOfCalling_1 : decode cX7_priceOfCalling 1 = .ok (.aload_n 1, 1) := by decide +kernel
theorem dX7_priceOfCalling_2 : decode cX7_priceOfCalling 2 = .ok (.getfield 292, 3) := by decide +kernel
theorem dX7_priceOfCalling_5 : decode cX7_priceOfCalling 5 = .ok (.invokevirtual 66, 3) := by decide +kernel
theorem dX7_priceOfCalling_8 : decode cX7_priceOfCalling 8 = .ok (.astore_n 2, 1) := by decide +kernel
theorem dX7_priceOfCalling_9 : decode cX7_priceOfCalling 9 = .ok (.aload_n 1, 1) := by decide +kernel
theorem dX7_priceOfCalling_10 : decode cX7_priceOfCalling 10 = .ok (.invokevirtual 317, 3) := by decide +kernel
theorem dX7_priceOfCalling_13 : decode cX7_priceOfCalling 13 = .ok (.ifCond .eq 10, 3) := by decide +kernel
theorem dX7_priceOfCalling_16 : decode cX7_priceOfCalling 16 = .ok (.aload_n 2, 1) := by decide +kernel
theorem dX7_priceOfCalling_17 : decode cX7_priceOfCalling 17 = .ok (.getfield 114, 3) := by decide +kernel
theorem dX7_priceOfCalling_20 : decode cX7_priceOfCalling 20 = .ok (.goto 7, 3) := by decide +kernel
theorem dX7_priceOfCalling_23 : decode cX7_priceOfCalling 23 = .ok (.aload_n 2, 1) := by decide +kernel
theorem dX7_priceOfCalling_24 : decode cX7_priceOfCalling 24 = .ok (.getfield 111, 3) := by decide +kernel
theorem dX7_priceOfCalling_27 : decode cX7_priceOfCalling 27 = .ok (.ireturn, 1) := by decide +kernel
theorem dX7_priceOfBeingCalled_0 : decode cX7_priceOfBeingCalled 0 = .ok (.aload_n 1, 1) := by decide +kernel
theorem dX7_priceOfBeingCalled_1 : decode cX7_priceOfBeingCalled 1 = .ok (.invokevirtual 317, 3) := by decide +kernel
theorem dX7_priceOfBeingCalled_4 : decode cX7_priceOfBeingCalled 4 = .ok (.ifCond .eq 17, 3) := by decide +kernel
theorem dX7_priceOfBeingCalled_7 : decode cX7_priceOfBeingCalled 7 = .ok (.aload_n 0, 1) := by decide +kernel
theorem dX7_priceOfBeingCalled_8 : decode cX7_priceOfBeingCalled 8 = .ok (.aload_n 1, 1) := by decide +kernel
theorem dX7_priceOfBeingCalled_9 : decode cX7_priceOfBeingCalled 9 = .ok (.getfield 292, 3) := by decide +kernel
theorem dX7_priceOfBeingCalled_12 : decode cX7_priceOfBeingCalled 12 = .ok (.invokevirtual 66, 3) := by decide +kernel
theorem dX7_priceOfBeingCalled_15 : decode cX7_priceOfBeingCalled 15 = .ok (.getfield 117, 3) := by decide +kernel
theorem dX7_priceOfBeingCalled_18 : decode cX7_priceOfBeingCalled 18 = .ok (.goto 4, 3) := by decide +kernel
theorem dX7_priceOfBeingCalled_21 : decode cX7_priceOfBeingCalled 21 = .ok (.iconst 0, 1) := by decide +kernel
theorem dX7_priceOfBeingCalled_22 : decode cX7_priceOfBeingCalled 22 = .ok (.ireturn, 1) := by decide +kernel
theorem dX7_settle_0 : decode cX7_settle 0 = .ok (.aload_n 1, 1) := by decide +kernel
theorem dX7_settle_1 : decode cX7_settle 1 = .ok (.dup, 1) := by decide +kernel
theorem dX7_settle_2 : decode cX7_settle 2 = .ok (.getfield 181, 3) := by decide +kernel
theorem dX7_settle_5 : decode cX7_settle 5 = .ok (.iload_n 2, 1) := by decide +kernel
theorem dX7_settle_6 : decode cX7_settle 6 = .ok (.iadd, 1) := by decide +kernel
theorem dX7_settle_7 : decode cX7_settle 7 = .ok (.putfield 181, 3) := by decide +kernel
theorem dX7_settle_10 : decode cX7_settle 10 = .ok (.aload_n 1, 1) := by decide +kernel
theorem dX7_settle_11 : decode cX7_settle 11 = .ok (.invokevirtual 317, 3) := by decide +kernel
theorem dX7_settle_14 : decode cX7_settle 14 = .ok (.ifCond .eq 60, 3) := by decide +kernel
theorem dX7_settle_17 : decode cX7_settle 17 = .ok (.aload_n 1, 1) := by decide +kernel
theorem dX7_settle_18 : decode cX7_settle 18 = .ok (.dup, 1) := by decide +kernel
theorem dX7_settle_19 : decode cX7_settle 19 = .ok (.getfield 184, 3) := by decide +kernel
theorem dX7_settle_22 : decode cX7_settle 22 = .ok (.iload_n 2, 1) := by decide +kernel
theorem dX7_settle_23 : decode cX7_settle 23 = .ok (.iadd, 1) := by decide +kernel
theorem dX7_settle_24 : decode cX7_settle 24 = .ok (.putfield 184, 3) := by decide +kernel
theorem dX7_settle_27 : decode cX7_settle 27 = .ok (.aload_n 0, 1) := by decide +kernel
theorem dX7_settle_28 : decode cX7_settle 28 = .ok (.aload_n 1, 1) := by decide +kernel
theorem dX7_settle_29 : decode cX7_settle 29 = .ok (.getfield 292, 3) := by decide +kernel
theorem dX7_settle_32 : decode cX7_settle 32 = .ok (.aload_n 1, 1) := by decide +kernel
theorem dX7_settle_33 : decode cX7_settle 33 = .ok (.getfield 142, 3) := by decide +kernel
theorem dX7_settle_36 : decode cX7_settle 36 = .ok (.invokevirtual 295, 3) := by decide +kernel
theorem dX7_settle_39 : decode cX7_settle 39 = .ok (.astore 4, 2) := by decide +kernel
theorem dX7_settle_41 : decode cX7_settle 41 = .ok (.aload_n 0, 1) := by decide +kernel
theorem dX7_settle_42 : decode cX7_settle 42 = .ok (.aload_n 1, 1) := by decide +kernel
theorem dX7_settle_43 : decode cX7_settle 43 = .ok (.getfield 142, 3) := by decide +kernel
theorem dX7_settle_46 : decode cX7_settle 46 = .ok (.aload_n 1, 1) := by decide +kernel
theorem dX7_settle_47 : decode cX7_settle 47 = .ok (.getfield 292, 3) := by decide +kernel
theorem dX7_settle_50 : decode cX7_settle 50 = .ok (.invokevirtual 228, 3) := by decide +kernel
theorem dX7_settle_53 : decode cX7_settle 53 = .ok (.getfield 320, 3) := by decide +kernel
theorem dX7_settle_56 : decode cX7_settle 56 = .ok (.new 323, 3) := by decide +kernel
theorem dX7_settle_59 : decode cX7_settle 59 = .ok (.dup, 1) := by decide +kernel
theorem dX7_settle_60 : decode cX7_settle 60 = .ok (.iload_n 3, 1) := by decide +kernel
theorem dX7_settle_61 : decode cX7_settle 61 = .ok (.aload_n 0, 1) := by decide +kernel
theorem dX7_settle_62 : decode cX7_settle 62 = .ok (.getfield 160, 3) := by decide +kernel
theorem dX7_settle_65 : decode cX7_settle 65 = .ok (.aload 4, 2) := by decide +kernel
theorem dX7_settle_67 : decode cX7_settle 67 = .ok (.invokespecial 325, 3) := by decide +kernel
theorem dX7_settle_70 : decode cX7_settle 70 = .ok (.invokevirtual 104, 3) := by decide +kernel
theorem dX7_settle_73 : decode cX7_settle 73 = .ok (.pop, 1) := by decide +kernel
theorem dX7_settle_74 : decode cX7_settle 74 = .ok (.return_, 1) := by decide +kernel
theorem dJ9_max_7cf53_0 : decode cJ9_max_7cf53 0 = .ok (.iload_n 0, 1) := by decide +kernel
theorem dJ9_max_7cf53_1 : decode cJ9_max_7cf53 1 = .ok (.iload_n 1, 1) := by decide +kernel
theorem dJ9_max_7cf53_2 : decode cJ9_max_7cf53 2 = .ok (.if_icmp .lt 7, 3) := by decide +kernel
theorem dJ9_max_7cf53_5 : decode cJ9_max_7cf53 5 = .ok (.iload_n 0, 1) := by decide +kernel
theorem dJ9_max_7cf53_6 : decode cJ9_max_7cf53 6 = .ok (.goto 4, 3) := by decide +kernel
theorem dJ9_max_7cf53_9 : decode cJ9_max_7cf53 9 = .ok (.iload_n 1, 1) := by decide +kernel
theorem dJ9_max_7cf53_10 : decode cJ9_max_7cf53 10 = .ok (.ireturn, 1) := by decide +kernel
theorem dJ9_min_7cf53_0 : decode cJ9_min_7cf53 0 = .ok (.iload_n 0, 1) := by decide +kernel
theorem dJ9_min_7cf53_1 : decode cJ9_min_7cf53 1 = .ok (.iload_n 1, 1) := by decide +kernel
theorem dJ9_min_7cf53_2 : decode cJ9_min_7cf53 2 = .ok (.if_icmp .gt 7, 3) := by decide +kernel
theorem dJ9_min_7cf53_5 : decode cJ9_min_7cf53 5 = .ok (.iload_n 0, 1) := by decide +kernel
theorem dJ9_min_7cf53_6 : decode cJ9_min_7cf53 6 = .ok (.goto 4, 3) := by decide +kernel
theorem dJ9_min_7cf53_9 : decode cJ9_min_7cf53 9 = .ok (.iload_n 1, 1) := by decide +kernel
theorem dJ9_min_7cf53_10 : decode cJ9_min_7cf53 10 = .ok (.ireturn, 1) := by decide +kernel
theorem dJxa1e45_init_da8c8_0 : decode cJxa1e45_init_da8c8 0 = .ok (.aload_n 0, 1) := by decide +kernel
theorem dJxa1e45_init_da8c8_1 : decode cJxa1e45_init_da8c8 1 = .ok (.invokespecial 1, 3) := by decide +kernel
theorem dJxa1e45_init_da8c8_4 : decode cJxa1e45_init_da8c8 4 = .ok (.return_, 1) := by decide +kernel
theorem dJxc12de_init_da8c8_0 : decode cJxc12de_init_da8c8 0 = .ok (.aload_n 0, 1) := by decide +kernel
theorem dJxc12de_init_da8c8_1 : decode cJxc12de_init_da8c8 1 = .ok (.invokespecial 1, 3) := by decide +kernel
theorem dJxc12de_init_da8c8_4 : decode cJxc12de_init_da8c8 4 = .ok (.aload_n 0, 1) := by decide +kernel
theorem dJxc12de_init_da8c8_5 : decode cJxc12de_init_da8c8 5 = .ok (.iconst 0, 1) := by decide +kernel
theorem dJxc12de_init_da8c8_6 : decode cJxc12de_init_da8c8 6 = .ok (.putfield 7, 3) := by decide +kernel
theorem dJxc12de_init_da8c8_9 : decode cJxc12de_init_da8c8 9 = .ok (.return_, 1) := by decide +kernel
theorem dJx4a65c_init_da8c8_0 : decode cJx4a65c_init_da8c8 0 = .ok (.aload_n 0, 1) := by decide +kernel
theorem dJx4a65c_init_da8c8_1 : decode cJx4a65c_init_da8c8 1 = .ok (.invokespecial 1, 3) := by decide +kernel
theorem dJx4a65c_init_da8c8_4 : decode cJx4a65c_init_da8c8 4 = .ok (.aload_n 0, 1) := by decide +kernel
theorem dJx4a65c_init_da8c8_5 : decode cJx4a65c_init_da8c8 5 = .ok (.getstatic 39, 3) := by decide +kernel
theorem dJx4a65c_init_da8c8_8 : decode cJx4a65c_init_da8c8 8 = .ok (.putfield 9, 3) := by decide +kernel
theorem dJx4a65c_init_da8c8_11 : decode cJx4a65c_init_da8c8 11 = .ok (.return_, 1) := by decide +kernel
theorem dJx4a65c_grow_92f84_0 : decode cJx4a65c_grow_92f84 0 = .ok (.aload_n 0, 1) := by decide +kernel
theorem dJx4a65c_grow_92f84_1 : decode cJx4a65c_grow_92f84 1 = .ok (.getfield 9, 3) := by decide +kernel
theorem dJx4a65c_grow_92f84_4 : decode cJx4a65c_grow_92f84 4 = .ok (.arraylength, 1) := by decide +kernel
theorem dJx4a65c_grow_92f84_5 : decode cJx4a65c_grow_92f84 5 = .ok (.istore_n 2, 1) := by decide +kernel
theorem dJx4a65c_grow_92f84_6 : decode cJx4a65c_grow_92f84 6 = .ok (.iload_n 2, 1) := by decide +kernel
theorem dJx4a65c_grow_92f84_7 : decode cJx4a65c_grow_92f84 7 = .ok (.ifCond .gt 13, 3) := by decide +kernel
theorem dJx4a65c_grow_92f84_10 : decode cJx4a65c_grow_92f84 10 = .ok (.aload_n 0, 1) := by decide +kernel
theorem dJx4a65c_grow_92f84_11 : decode cJx4a65c_grow_92f84 11 = .ok (.getfield 9, 3) := by decide +kernel
theorem dJx4a65c_grow_92f84_14 : decode cJx4a65c_grow_92f84 14 = .ok (.getstatic 39, 3) := by decide +kernel
theorem dJx4a65c_grow_92f84_17 : decode cJx4a65c_grow_92f84 17 = .ok (.if_acmp .eq 28, 3) := by decide +kernel
theorem dJx4a65c_grow_92f84_20 : decode cJx4a65c_grow_92f84 20 = .ok (.iload_n 2, 1) := by decide +kernel
theorem dJx4a65c_grow_92f84_21 : decode cJx4a65c_grow_92f84 21 = .ok (.iload_n 1, 1) := by decide +kernel
theorem dJx4a65c_grow_92f84_22 : decode cJx4a65c_grow_92f84 22 = .ok (.iload_n 2, 1) := by decide +kernel
theorem dJx4a65c_grow_92f84_23 : decode cJx4a65c_grow_92f84 23 = .ok (.isub, 1) := by decide +kernel
theorem dJx4a65c_grow_92f84_24 : decode cJx4a65c_grow_92f84 24 = .ok (.iload_n 2, 1) := by decide +kernel
theorem dJx4a65c_grow_92f84_25 : decode cJx4a65c_grow_92f84 25 = .ok (.iconst 1, 1) := by decide +kernel
theorem dJx4a65c_grow_92f84_26 : decode cJx4a65c_grow_92f84 26 = .ok (.ishr, 1) := by decide +kernel
theorem dJx4a65c_grow_92f84_27 : decode cJx4a65c_grow_92f84 27 = .ok (.invokestatic 73, 3) := by decide +kernel
theorem dJx4a65c_grow_92f84_30 : decode cJx4a65c_grow_92f84 30 = .ok (.istore_n 3, 1) := by decide +kernel
theorem dJx4a65c_grow_92f84_31 : decode cJx4a65c_grow_92f84 31 = .ok (.aload_n 0, 1) := by decide +kernel
theorem dJx4a65c_grow_92f84_32 : decode cJx4a65c_grow_92f84 32 = .ok (.aload_n 0, 1) := by decide +kernel
theorem dJx4a65c_grow_92f84_33 : decode cJx4a65c_grow_92f84 33 = .ok (.getfield 9, 3) := by decide +kernel
theorem dJx4a65c_grow_92f84_36 : decode cJx4a65c_grow_92f84 36 = .ok (.iload_n 3, 1) := by decide +kernel
theorem dJx4a65c_grow_92f84_37 : decode cJx4a65c_grow_92f84 37 = .ok (.invokestatic 66, 3) := by decide +kernel
theorem dJx4a65c_grow_92f84_40 : decode cJx4a65c_grow_92f84 40 = .ok (.dup_x1, 1) := by decide +kernel
theorem dJx4a65c_grow_92f84_41 : decode cJx4a65c_grow_92f84 41 = .ok (.putfield 9, 3) := by decide +kernel
theorem dJx4a65c_grow_92f84_44 : decode cJx4a65c_grow_92f84 44 = .ok (.areturn, 1) := by decide +kernel
theorem dJx4a65c_grow_92f84_45 : decode cJx4a65c_grow_92f84 45 = .ok (.aload_n 0, 1) := by decide +kernel
theorem dJx4a65c_grow_92f84_46 : decode cJx4a65c_grow_92f84 46 = .ok (.bipush 10, 2) := by decide +kernel
theorem dJx4a65c_grow_92f84_48 : decode cJx4a65c_grow_92f84 48 = .ok (.iload_n 1, 1) := by decide +kernel
theorem dJx4a65c_grow_92f84_49 : decode cJx4a65c_grow_92f84 49 = .ok (.invokestatic 79, 3) := by decide +kernel
theorem dJx4a65c_grow_92f84_52 : decode cJx4a65c_grow_92f84 52 = .ok (.anewarray 7, 3) := by decide +kernel
theorem dJx4a65c_grow_92f84_55 : decode cJx4a65c_grow_92f84 55 = .ok (.dup_x1, 1) := by decide +kernel
theorem dJx4a65c_grow_92f84_56 : decode cJx4a65c_grow_92f84 56 = .ok (.putfield 9, 3) := by decide +kernel
theorem dJx4a65c_grow_92f84_59 : decode cJx4a65c_grow_92f84 59 = .ok (.areturn, 1) := by decide +kernel
theorem dJx4a65c_grow_d5877_0 : decode cJx4a65c_grow_d5877 0 = .ok (.aload_n 0, 1) := by decide +kernel
theorem dJx4a65c_grow_d5877_1 : decode cJx4a65c_grow_d5877 1 = .ok (.aload_n 0, 1) := by decide +kernel
theorem dJx4a65c_grow_d5877_2 : decode cJx4a65c_grow_d5877 2 = .ok (.getfield 48, 3) := by decide +kernel
theorem dJx4a65c_grow_d5877_5 : decode cJx4a65c_grow_d5877 5 = .ok (.iconst 1, 1) := by decide +kernel
theorem dJx4a65c_grow_d5877_6 : decode cJx4a65c_grow_d5877 6 = .ok (.iadd, 1) := by decide +kernel
theorem dJx4a65c_grow_d5877_7 : decode cJx4a65c_grow_d5877 7 = .ok (.invokevirtual 69, 3) := by decide +kernel
theorem dJx4a65c_grow_d5877_10 : decode cJx4a65c_grow_d5877 10 = .ok (.areturn, 1) := by decide +kernel
theorem dJx4a65c_size_8abf5_0 : decode cJx4a65c_size_8abf5 0 = .ok (.aload_n 0, 1) := by decide +kernel
theorem dJx4a65c_size_8abf5_1 : decode cJx4a65c_size_8abf5 1 = .ok (.getfield 48, 3) := by decide +kernel
theorem dJx4a65c_size_8abf5_4 : decode cJx4a65c_size_8abf5 4 = .ok (.ireturn, 1) := by decide +kernel
theorem dJx4a65c_elementData_915e3_0 : decode cJx4a65c_elementData_915e3 0 = .ok (.aload_n 0, 1) := by decide +kernel
theorem dJx4a65c_elementData_915e3_1 : decode cJx4a65c_elementData_915e3 1 = .ok (.getfield 9, 3) := by decide +kernel
theorem dJx4a65c_elementData_915e3_4 : decode cJx4a65c_elementData_915e3 4 = .ok (.iload_n 1, 1) := by decide +kernel
theorem dJx4a65c_elementData_915e3_5 : decode cJx4a65c_elementData_915e3 5 = .ok (.aaload, 1) := by decide +kernel
theorem dJx4a65c_elementData_915e3_6 : decode cJx4a65c_elementData_915e3 6 = .ok (.areturn, 1) := by decide +kernel
theorem dJx4a65c_get_915e3_0 : decode cJx4a65c_get_915e3 0 = .ok (.iload_n 1, 1) := by decide +kernel
theorem dJx4a65c_get_915e3_1 : decode cJx4a65c_get_915e3 1 = .ok (.aload_n 0, 1) := by decide +kernel
theorem dJx4a65c_get_915e3_2 : decode cJx4a65c_get_915e3 2 = .ok (.getfield 48, 3) := by decide +kernel
theorem dJx4a65c_get_915e3_5 : decode cJx4a65c_get_915e3 5 = .ok (.invokestatic 118, 3) := by decide +kernel
theorem dJx4a65c_get_915e3_8 : decode cJx4a65c_get_915e3 8 = .ok (.pop, 1) := by decide +kernel
theorem dJx4a65c_get_915e3_9 : decode cJx4a65c_get_915e3 9 = .ok (.aload_n 0, 1) := by decide +kernel
theorem dJx4a65c_get_915e3_10 : decode cJx4a65c_get_915e3 10 = .ok (.iload_n 1, 1) := by decide +kernel
theorem dJx4a65c_get_915e3_11 : decode cJx4a65c_get_915e3 11 = .ok (.invokevirtual 123, 3) := by decide +kernel
theorem dJx4a65c_get_915e3_14 : decode cJx4a65c_get_915e3 14 = .ok (.areturn, 1) := by decide +kernel
theorem dJx4a65c_add_72be8_0 : decode cJx4a65c_add_72be8 0 = .ok (.iload_n 3, 1) := by decide +kernel
theorem dJx4a65c_add_72be8_1 : decode cJx4a65c_add_72be8 1 = .ok (.aload_n 2, 1) := by decide +kernel
theorem dJx4a65c_add_72be8_2 : decode cJx4a65c_add_72be8 2 = .ok (.arraylength, 1) := by decide +kernel
theorem dJx4a65c_add_72be8_3 : decode cJx4a65c_add_72be8 3 = .ok (.if_icmp .ne 8, 3) := by decide +kernel
theorem dJx4a65c_add_72be8_6 : decode cJx4a65c_add_72be8 6 = .ok (.aload_n 0, 1) := by decide +kernel
theorem dJx4a65c_add_72be8_7 : decode cJx4a65c_add_72be8 7 = .ok (.invokevirtual 129, 3) := by decide +kernel
theorem dJx4a65c_add_72be8_10 : decode cJx4a65c_add_72be8 10 = .ok (.astore_n 2, 1) := by decide +kernel
theorem dJx4a65c_add_72be8_11 : decode cJx4a65c_add_72be8 11 = .ok (.aload_n 2, 1) := by decide +kernel
theorem dJx4a65c_add_72be8_12 : decode cJx4a65c_add_72be8 12 = .ok (.iload_n 3, 1) := by decide +kernel
theorem dJx4a65c_add_72be8_13 : decode cJx4a65c_add_72be8 13 = .ok (.aload_n 1, 1) := by decide +kernel
theorem dJx4a65c_add_72be8_14 : decode cJx4a65c_add_72be8 14 = .ok (.aastore, 1) := by decide +kernel
theorem dJx4a65c_add_72be8_15 : decode cJx4a65c_add_72be8 15 = .ok (.aload_n 0, 1) := by decide +kernel
theorem dJx4a65c_add_72be8_16 : decode cJx4a65c_add_72be8 16 = .ok (.iload_n 3, 1) := by decide +kernel
theorem dJx4a65c_add_72be8_17 : decode cJx4a65c_add_72be8 17 = .ok (.iconst 1, 1) := by decide +kernel
theorem dJx4a65c_add_72be8_18 : decode cJx4a65c_add_72be8 18 = .ok (.iadd, 1) := by decide +kernel
theorem dJx4a65c_add_72be8_19 : decode cJx4a65c_add_72be8 19 = .ok (.putfield 48, 3) := by decide +kernel
theorem dJx4a65c_add_72be8_22 : decode cJx4a65c_add_72be8 22 = .ok (.return_, 1) := by decide +kernel
theorem dJx4a65c_add_9ea2d_0 : decode cJx4a65c_add_9ea2d 0 = .ok (.aload_n 0, 1) := by decide +kernel
theorem dJx4a65c_add_9ea2d_1 : decode cJx4a65c_add_9ea2d 1 = .ok (.dup, 1) := by decide +kernel
theorem dJx4a65c_add_9ea2d_2 : decode cJx4a65c_add_9ea2d 2 = .ok (.getfield 63, 3) := by decide +kernel
theorem dJx4a65c_add_9ea2d_5 : decode cJx4a65c_add_9ea2d 5 = .ok (.iconst 1, 1) := by decide +kernel
theorem dJx4a65c_add_9ea2d_6 : decode cJx4a65c_add_9ea2d 6 = .ok (.iadd, 1) := by decide +kernel
theorem dJx4a65c_add_9ea2d_7 : decode cJx4a65c_add_9ea2d 7 = .ok (.putfield 63, 3) := by decide +kernel
theorem dJx4a65c_add_9ea2d_10 : decode cJx4a65c_add_9ea2d 10 = .ok (.aload_n 0, 1) := by decide +kernel
theorem dJx4a65c_add_9ea2d_11 : decode cJx4a65c_add_9ea2d 11 = .ok (.aload_n 1, 1) := by decide +kernel
theorem dJx4a65c_add_9ea2d_12 : decode cJx4a65c_add_9ea2d 12 = .ok (.aload_n 0, 1) := by decide +kernel
theorem dJx4a65c_add_9ea2d_13 : decode cJx4a65c_add_9ea2d 13 = .ok (.getfield 9, 3) := by decide +kernel
theorem dJx4a65c_add_9ea2d_16 : decode cJx4a65c_add_9ea2d 16 = .ok (.aload_n 0, 1) := by decide +kernel
theorem dJx4a65c_add_9ea2d_17 : decode cJx4a65c_add_9ea2d 17 = .ok (.getfield 48, 3) := by decide +kernel
theorem dJx4a65c_add_9ea2d_20 : decode cJx4a65c_add_9ea2d 20 = .ok (.invokevirtual 131, 3) := by decide +kernel
theorem dJx4a65c_add_9ea2d_23 : decode cJx4a65c_add_9ea2d 23 = .ok (.iconst 1, 1) := by decide +kernel
theorem dJx4a65c_add_9ea2d_24 : decode cJx4a65c_add_9ea2d 24 = .ok (.ireturn, 1) := by decide +kernel
theorem dJ7_fill_53178_0 : decode cJ7_fill_53178 0 = .ok (.iconst 0, 1) := by decide +kernel
theorem dJ7_fill_53178_1 : decode cJ7_fill_53178 1 = .ok (.istore_n 2, 1) := by decide +kernel
theorem dJ7_fill_53178_2 : decode cJ7_fill_53178 2 = .ok (.aload_n 0, 1) := by decide +kernel
theorem dJ7_fill_53178_3 : decode cJ7_fill_53178 3 = .ok (.arraylength, 1) := by decide +kernel
theorem dJ7_fill_53178_4 : decode cJ7_fill_53178 4 = .ok (.istore_n 3, 1) := by decide +kernel
theorem dJ7_fill_53178_5 : decode cJ7_fill_53178 5 = .ok (.iload_n 2, 1) := by decide +kernel
theorem dJ7_fill_53178_6 : decode cJ7_fill_53178 6 = .ok (.iload_n 3, 1) := by decide +kernel
theorem dJ7_fill_53178_7 : decode cJ7_fill_53178 7 = .ok (.if_icmp .ge 13, 3) := by decide +kernel
theorem dJ7_fill_53178_10 : decode cJ7_fill_53178 10 = .ok (.aload_n 0, 1) := by decide +kernel
theorem dJ7_fill_53178_11 : decode cJ7_fill_53178 11 = .ok (.iload_n 2, 1) := by decide +kernel
theorem dJ7_fill_53178_12 : decode cJ7_fill_53178 12 = .ok (.iload_n 1, 1) := by decide +kernel
theorem dJ7_fill_53178_13 : decode cJ7_fill_53178 13 = .ok (.iastore, 1) := by decide +kernel
theorem dJ7_fill_53178_14 : decode cJ7_fill_53178 14 = .ok (.iinc 2 1, 3) := by decide +kernel
theorem dJ7_fill_53178_17 : decode cJ7_fill_53178 17 = .ok (.goto (-12), 3) := by decide +kernel
theorem dJ7_fill_53178_20 : decode cJ7_fill_53178 20 = .ok (.return_, 1) := by decide +kernel
theorem dJ7_copyOf_1904c_0 : decode cJ7_copyOf_1904c 0 = .ok (.aload_n 0, 1) := by decide +kernel
theorem dJ7_copyOf_1904c_1 : decode cJ7_copyOf_1904c 1 = .ok (.iload_n 1, 1) := by decide +kernel
theorem dJ7_copyOf_1904c_2 : decode cJ7_copyOf_1904c 2 = .ok (.aload_n 0, 1) := by decide +kernel
theorem dJ7_copyOf_1904c_3 : decode cJ7_copyOf_1904c 3 = .ok (.invokevirtual 86, 3) := by decide +kernel
theorem dJ7_copyOf_1904c_6 : decode cJ7_copyOf_1904c 6 = .ok (.invokestatic 300, 3) := by decide +kernel
theorem dJ7_copyOf_1904c_9 : decode cJ7_copyOf_1904c 9 = .ok (.areturn, 1) := by decide +kernel
theorem dJ7_copyOf_6403c_0 : decode cJ7_copyOf_6403c 0 = .ok (.aload_n 2, 1) := by decide +kernel
theorem dJ7_copyOf_6403c_1 : decode cJ7_copyOf_6403c 1 = .ok (.ldc 110, 2) := by decide +kernel
theorem dJ7_copyOf_6403c_3 : decode cJ7_copyOf_6403c 3 = .ok (.if_acmp .ne 10, 3) := by decide +kernel
theorem dJ7_copyOf_6403c_6 : decode cJ7_copyOf_6403c 6 = .ok (.iload_n 1, 1) := by decide +kernel
theorem dJ7_copyOf_6403c_7 : decode cJ7_copyOf_6403c 7 = .ok (.anewarray 2, 3) := by decide +kernel
theorem dJ7_copyOf_6403c_10 : decode cJ7_copyOf_6403c 10 = .ok (.goto 14, 3) := by decide +kernel
theorem dJ7_copyOf_6403c_13 : decode cJ7_copyOf_6403c 13 = .ok (.aload_n 2, 1) := by decide +kernel
theorem dJ7_copyOf_6403c_14 : decode cJ7_copyOf_6403c 14 = .ok (.invokevirtual 90, 3) := by decide +kernel
theorem dJ7_copyOf_6403c_17 : decode cJ7_copyOf_6403c 17 = .ok (.iload_n 1, 1) := by decide +kernel
theorem dJ7_copyOf_6403c_18 : decode cJ7_copyOf_6403c 18 = .ok (.invokestatic 95, 3) := by decide +kernel
theorem dJ7_copyOf_6403c_21 : decode cJ7_copyOf_6403c 21 = .ok (.checkcast 110, 3) := by decide +kernel
theorem dJ7_copyOf_6403c_24 : decode cJ7_copyOf_6403c 24 = .ok (.astore_n 3, 1) := by decide +kernel
theorem dJ7_copyOf_6403c_25 : decode cJ7_copyOf_6403c 25 = .ok (.aload_n 0, 1) := by decide +kernel
theorem dJ7_copyOf_6403c_26 : decode cJ7_copyOf_6403c 26 = .ok (.iconst 0, 1) := by decide +kernel
theorem dJ7_copyOf_6403c_27 : decode cJ7_copyOf_6403c 27 = .ok (.aload_n 3, 1) := by decide +kernel
theorem dJ7_copyOf_6403c_28 : decode cJ7_copyOf_6403c 28 = .ok (.iconst 0, 1) := by decide +kernel
theorem dJ7_copyOf_6403c_29 : decode cJ7_copyOf_6403c 29 = .ok (.aload_n 0, 1) := by decide +kernel
theorem dJ7_copyOf_6403c_30 : decode cJ7_copyOf_6403c 30 = .ok (.arraylength, 1) := by decide +kernel
theorem dJ7_copyOf_6403c_31 : decode cJ7_copyOf_6403c 31 = .ok (.iload_n 1, 1) := by decide +kernel
theorem dJ7_copyOf_6403c_32 : decode cJ7_copyOf_6403c 32 = .ok (.invokestatic 304, 3) := by decide +kernel
theorem dJ7_copyOf_6403c_35 : decode cJ7_copyOf_6403c 35 = .ok (.invokestatic 150, 3) := by decide +kernel
theorem dJ7_copyOf_6403c_38 : decode cJ7_copyOf_6403c 38 = .ok (.aload_n 3, 1) := by decide +kernel
theorem dJ7_copyOf_6403c_39 : decode cJ7_copyOf_6403c 39 = .ok (.areturn, 1) := by decide +kernel
theorem dJ15_checkIndex_7cf53_0 : decode cJ15_checkIndex_7cf53 0 = .ok (.iload_n 0, 1) := by decide +kernel
theorem dJ15_checkIndex_7cf53_1 : decode cJ15_checkIndex_7cf53 1 = .ok (.iload_n 1, 1) := by decide +kernel
theorem dJ15_checkIndex_7cf53_2 : decode cJ15_checkIndex_7cf53 2 = .ok (.aconst_null, 1) := by decide +kernel
theorem dJ15_checkIndex_7cf53_3 : decode cJ15_checkIndex_7cf53 3 = .ok (.invokestatic 105, 3) := by decide +kernel
theorem dJ15_checkIndex_7cf53_6 : decode cJ15_checkIndex_7cf53 6 = .ok (.ireturn, 1) := by decide +kernel
theorem dJ8_newLength_cabcc_0 : decode cJ8_newLength_cabcc 0 = .ok (.iload_n 0, 1) := by decide +kernel
theorem dJ8_newLength_cabcc_1 : decode cJ8_newLength_cabcc 1 = .ok (.iload_n 1, 1) := by decide +kernel
theorem dJ8_newLength_cabcc_2 : decode cJ8_newLength_cabcc 2 = .ok (.iload_n 2, 1) := by decide +kernel
theorem dJ8_newLength_cabcc_3 : decode cJ8_newLength_cabcc 3 = .ok (.invokestatic 194, 3) := by decide +kernel
theorem dJ8_newLength_cabcc_6 : decode cJ8_newLength_cabcc 6 = .ok (.iadd, 1) := by decide +kernel
theorem dJ8_newLength_cabcc_7 : decode cJ8_newLength_cabcc 7 = .ok (.istore_n 3, 1) := by decide +kernel
theorem dJ8_newLength_cabcc_8 : decode cJ8_newLength_cabcc 8 = .ok (.iconst 0, 1) := by decide +kernel
theorem dJ8_newLength_cabcc_9 : decode cJ8_newLength_cabcc 9 = .ok (.iload_n 3, 1) := by decide +kernel
theorem dJ8_newLength_cabcc_10 : decode cJ8_newLength_cabcc 10 = .ok (.if_icmp .ge 11, 3) := by decide +kernel
theorem dJ8_newLength_cabcc_13 : decode cJ8_newLength_cabcc 13 = .ok (.iload_n 3, 1) := by decide +kernel
theorem dJ8_newLength_cabcc_14 : decode cJ8_newLength_cabcc 14 = .ok (.ldc 200, 2) := by decide +kernel
theorem dJ8_newLength_cabcc_16 : decode cJ8_newLength_cabcc 16 = .ok (.if_icmp .gt 5, 3) := by decide +kernel
theorem dJ8_newLength_cabcc_19 : decode cJ8_newLength_cabcc 19 = .ok (.iload_n 3, 1) := by decide +kernel
theorem dJ8_newLength_cabcc_20 : decode cJ8_newLength_cabcc 20 = .ok (.ireturn, 1) := by decide +kernel
theorem dJ8_newLength_cabcc_21 : decode cJ8_newLength_cabcc 21 = .ok (.iload_n 0, 1) := by decide +kernel
theorem dJ8_newLength_cabcc_22 : decode cJ8_newLength_cabcc 22 = .ok (.iload_n 1, 1) := by decide +kernel
theorem dJ8_newLength_cabcc_23 : decode cJ8_newLength_cabcc 23 = .ok (.invokestatic 201, 3) := by decide +kernel
theorem dJ8_newLength_cabcc_26 : decode cJ8_newLength_cabcc 26 = .ok (.ireturn, 1) := by decide +kernel
theorem dJ8_hugeLength_7cf53_0 : decode cJ8_hugeLength_7cf53 0 = .ok (.iload_n 0, 1) := by decide +kernel
theorem dJ8_hugeLength_7cf53_1 : decode cJ8_hugeLength_7cf53 1 = .ok (.iload_n 1, 1) := by decide +kernel
theorem dJ8_hugeLength_7cf53_2 : decode cJ8_hugeLength_7cf53 2 = .ok (.iadd, 1) := by decide +kernel
theorem dJ8_hugeLength_7cf53_3 : decode cJ8_hugeLength_7cf53 3 = .ok (.istore_n 2, 1) := by decide +kernel
theorem dJ8_hugeLength_7cf53_4 : decode cJ8_hugeLength_7cf53 4 = .ok (.iload_n 2, 1) := by decide +kernel
theorem dJ8_hugeLength_7cf53_5 : decode cJ8_hugeLength_7cf53 5 = .ok (.ifCond .ge 44, 3) := by decide +kernel
theorem dJ8_hugeLength_7cf53_8 : decode cJ8_hugeLength_7cf53 8 = .ok (.new 204, 3) := by decide +kernel
theorem dJ8_hugeLength_7cf53_11 : decode cJ8_hugeLength_7cf53 11 = .ok (.dup, 1) := by decide +kernel
theorem dJ8_hugeLength_7cf53_12 : decode cJ8_hugeLength_7cf53 12 = .ok (.new 89, 3) := by decide +kernel
theorem dJ8_hugeLength_7cf53_15 : decode cJ8_hugeLength_7cf53 15 = .ok (.dup, 1) := by decide +kernel
theorem dJ8_hugeLength_7cf53_16 : decode cJ8_hugeLength_7cf53 16 = .ok (.invokespecial 91, 3) := by decide +kernel
theorem dJ8_hugeLength_7cf53_19 : decode cJ8_hugeLength_7cf53 19 = .ok (.ldc 206, 2) := by decide +kernel
theorem dJ8_hugeLength_7cf53_21 : decode cJ8_hugeLength_7cf53 21 = .ok (.invokevirtual 94, 3) := by decide +kernel
theorem dJ8_hugeLength_7cf53_24 : decode cJ8_hugeLength_7cf53 24 = .ok (.iload_n 0, 1) := by decide +kernel
theorem dJ8_hugeLength_7cf53_25 : decode cJ8_hugeLength_7cf53 25 = .ok (.invokevirtual 98, 3) := by decide +kernel
theorem dJ8_hugeLength_7cf53_28 : decode cJ8_hugeLength_7cf53 28 = .ok (.ldc 208, 2) := by decide +kernel
theorem dJ8_hugeLength_7cf53_30 : decode cJ8_hugeLength_7cf53 30 = .ok (.invokevirtual 94, 3) := by decide +kernel
theorem dJ8_hugeLength_7cf53_33 : decode cJ8_hugeLength_7cf53 33 = .ok (.iload_n 1, 1) := by decide +kernel
theorem dJ8_hugeLength_7cf53_34 : decode cJ8_hugeLength_7cf53 34 = .ok (.invokevirtual 98, 3) := by decide +kernel
theorem dJ8_hugeLength_7cf53_37 : decode cJ8_hugeLength_7cf53 37 = .ok (.ldc 210, 2) := by decide +kernel
theorem dJ8_hugeLength_7cf53_39 : decode cJ8_hugeLength_7cf53 39 = .ok (.invokevirtual 94, 3) := by decide +kernel
theorem dJ8_hugeLength_7cf53_42 : decode cJ8_hugeLength_7cf53 42 = .ok (.invokevirtual 101, 3) := by decide +kernel
theorem dJ8_hugeLength_7cf53_45 : decode cJ8_hugeLength_7cf53 45 = .ok (.invokespecial 212, 3) := by decide +kernel
theorem dJ8_hugeLength_7cf53_48 : decode cJ8_hugeLength_7cf53 48 = .ok (.athrow, 1) := by decide +kernel
theorem dJ8_hugeLength_7cf53_49 : decode cJ8_hugeLength_7cf53 49 = .ok (.iload_n 2, 1) := by decide +kernel
theorem dJ8_hugeLength_7cf53_50 : decode cJ8_hugeLength_7cf53 50 = .ok (.ldc 200, 2) := by decide +kernel
theorem dJ8_hugeLength_7cf53_52 : decode cJ8_hugeLength_7cf53 52 = .ok (.if_icmp .gt 6, 3) := by decide +kernel
theorem dJ8_hugeLength_7cf53_55 : decode cJ8_hugeLength_7cf53 55 = .ok (.ldc 200, 2) := by decide +kernel
theorem dJ8_hugeLength_7cf53_57 : decode cJ8_hugeLength_7cf53 57 = .ok (.ireturn, 1) := by decide +kernel
theorem dJ8_hugeLength_7cf53_58 : decode cJ8_hugeLength_7cf53 58 = .ok (.iload_n 2, 1) := by decide +kernel
theorem dJ8_hugeLength_7cf53_59 : decode cJ8_hugeLength_7cf53 59 = .ok (.ireturn, 1) := by decide +kernel
theorem dJ3_checkIndex_8e157_0 : decode cJ3_checkIndex_8e157 0 = .ok (.iload_n 0, 1) := by decide +kernel
theorem dJ3_checkIndex_8e157_1 : decode cJ3_checkIndex_8e157 1 = .ok (.ifCond .lt 8, 3) := by decide +kernel
theorem dJ3_checkIndex_8e157_4 : decode cJ3_checkIndex_8e157 4 = .ok (.iload_n 0, 1) := by decide +kernel
theorem dJ3_checkIndex_8e157_5 : decode cJ3_checkIndex_8e157 5 = .ok (.iload_n 1, 1) := by decide +kernel
theorem dJ3_checkIndex_8e157_6 : decode cJ3_checkIndex_8e157 6 = .ok (.if_icmp .lt 10, 3) := by decide +kernel
theorem dJ3_checkIndex_8e157_9 : decode cJ3_checkIndex_8e157 9 = .ok (.aload_n 2, 1) := by decide +kernel
theorem dJ3_checkIndex_8e157_10 : decode cJ3_checkIndex_8e157 10 = .ok (.iload_n 0, 1) := by decide +kernel
theorem dJ3_checkIndex_8e157_11 : decode cJ3_checkIndex_8e157 11 = .ok (.iload_n 1, 1) := by decide +kernel
theorem dJ3_checkIndex_8e157_12 : decode cJ3_checkIndex_8e157 12 = .ok (.invokestatic 95, 3) := by decide +kernel
theorem dJ3_checkIndex_8e157_15 : decode cJ3_checkIndex_8e157 15 = .ok (.athrow, 1) := by decide +kernel
theorem dJ3_checkIndex_8e157_16 : decode cJ3_checkIndex_8e157 16 = .ok (.iload_n 0, 1) := by decide +kernel
theorem dJ3_checkIndex_8e157_17 : decode cJ3_checkIndex_8e157 17 = .ok (.ireturn, 1) := by decide +kernel
