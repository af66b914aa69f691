theorem dX0_init_0 : decode cX0_init 0 = .ok (.aload_n 0, 1) := by decide +kernel
theorem dX0_init_1 : decode cX0_init 1 = .ok (.invokespecial 3, 3) := by decide +kernel
theorem dX0_init_4 : decode cX0_init 4 = .ok (.aload_n 0, 1) := by decide +kernel
theorem dX0_init_5 : decode cX0_init 5 = .ok (.new 9, 3) := by decide +kernel
theorem dX0_init_8 : decode cX0_init 8 = .ok (.dup, 1) := by decide +kernel
theorem dX0_init_9 : decode cX0_init 9 = .ok (.invokespecial 11, 3) := by decide +kernel
theorem dX0_init_12 : decode cX0_init 12 = .ok (.putfield 12, 3) := by decide +kernel
theorem dX0_init_15 : decode cX0_init 15 = .ok (.aload_n 0, 1) := by decide +kernel
theorem dX0_init_16 : decode cX0_init 16 = .ok (.new 18, 3) := by decide +kernel
theorem dX0_init_19 : decode cX0_init 19 = .ok (.dup, 1) := by decide +kernel
theorem dX0_init_20 : decode cX0_init 20 = .ok (.invokespecial 20, 3) := by decide +kernel
theorem dX0_init_23 : decode cX0_init 23 = .ok (.putfield 21, 3) := by decide +kernel
theorem dX0_init_26 : decode cX0_init 26 = .ok (.return_, 1) := by decide +kernel
theorem dX0_lookUp_0 : decode cX0_lookUp 0 = .ok (.aload_n 0, 1) := by decide +kernel
theorem dX0_lookUp_1 : decode cX0_lookUp 1 = .ok (.iload_n 1, 1) := by decide +kernel
theorem dX0_lookUp_2 : decode cX0_lookUp 2 = .ok (.iload_n 2, 1) := by decide +kernel
theorem dX0_lookUp_3 : decode cX0_lookUp 3 = .ok (.iload_n 3, 1) := by decide +kernel
theorem dX0_lookUp_4 : decode cX0_lookUp 4 = .ok (.iload 4, 2) := by decide +kernel
theorem dX0_lookUp_6 : decode cX0_lookUp 6 = .ok (.invokevirtual 25, 3) := by decide +kernel
theorem dX0_lookUp_9 : decode cX0_lookUp 9 = .ok (.istore 5, 2) := by decide +kernel
theorem dX0_lookUp_11 : decode cX0_lookUp 11 = .ok (.iload 5, 2) := by decide +kernel
theorem dX0_lookUp_13 : decode cX0_lookUp 13 = .ok (.ifCond .ge 8, 3) := by decide +kernel
theorem dX0_lookUp_16 : decode cX0_lookUp 16 = .ok (.iload 5, 2) := by decide +kernel
theorem dX0_lookUp_18 : decode cX0_lookUp 18 = .ok (.goto 13, 3) := by decide +kernel
theorem dX0_lookUp_21 : decode cX0_lookUp 21 = .ok (.aload_n 0, 1) := by decide +kernel
theorem dX0_lookUp_22 : decode cX0_lookUp 22 = .ok (.getfield 21, 3) := by decide +kernel
theorem dX0_lookUp_25 : decode cX0_lookUp 25 = .ok (.getfield 29, 3) := by decide +kernel
theorem dX0_lookUp_28 : decode cX0_lookUp 28 = .ok (.iload 5, 2) := by decide +kernel
theorem dX0_lookUp_30 : decode cX0_lookUp 30 = .ok (.iaload, 1) := by decide +kernel
theorem dX0_lookUp_31 : decode cX0_lookUp 31 = .ok (.ireturn, 1) := by decide +kernel
theorem dX0_recordBehind_0 : decode cX0_recordBehind 0 = .ok (.iload_n 2, 1) := by decide +kernel
theorem dX0_recordBehind_1 : decode cX0_recordBehind 1 = .ok (.istore 5, 2) := by decide +kernel
theorem dX0_recordBehind_3 : decode cX0_recordBehind 3 = .ok (.iconst 0, 1) := by decide +kernel
theorem dX0_recordBehind_4 : decode cX0_recordBehind 4 = .ok (.istore 6, 2) := by decide +kernel
theorem dX0_recordBehind_6 : decode cX0_recordBehind 6 = .ok (.iload 6, 2) := by decide +kernel
theorem dX0_recordBehind_8 : decode cX0_recordBehind 8 = .ok (.iconst 4, 1) := by decide +kernel
theorem dX0_recordBehind_9 : decode cX0_recordBehind 9 = .ok (.if_icmp .gt 115, 3) := by decide +kernel
theorem dX0_recordBehind_12 : decode cX0_recordBehind 12 = .ok (.aload_n 0, 1) := by decide +kernel
theorem dX0_recordBehind_13 : decode cX0_recordBehind 13 = .ok (.getfield 12, 3) := by decide +kernel
theorem dX0_recordBehind_16 : decode cX0_recordBehind 16 = .ok (.iload_n 1, 1) := by decide +kernel
theorem dX0_recordBehind_17 : decode cX0_recordBehind 17 = .ok (.iload 5, 2) := by decide +kernel
theorem dX0_recordBehind_19 : decode cX0_recordBehind 19 = .ok (.iload 4, 2) := by decide +kernel
theorem dX0_recordBehind_21 : decode cX0_recordBehind 21 = .ok (.invokevirtual 33, 3) := by decide +kernel
theorem dX0_recordBehind_24 : decode cX0_recordBehind 24 = .ok (.istore 7, 2) := by decide +kernel
theorem dX0_recordBehind_26 : decode cX0_recordBehind 26 = .ok (.iload 7, 2) := by decide +kernel
theorem dX0_recordBehind_28 : decode cX0_recordBehind 28 = .ok (.iconst (-1), 1) := by decide +kernel
theorem dX0_recordBehind_29 : decode cX0_recordBehind 29 = .ok (.if_icmp .ne 6, 3) := by decide +kernel
theorem dX0_recordBehind_32 : decode cX0_recordBehind 32 = .ok (.bipush (-11), 2) := by decide +kernel
theorem dX0_recordBehind_34 : decode cX0_recordBehind 34 = .ok (.ireturn, 1) := by decide +kernel
theorem dX0_recordBehind_35 : decode cX0_recordBehind 35 = .ok (.aload_n 0, 1) := by decide +kernel
theorem dX0_recordBehind_36 : decode cX0_recordBehind 36 = .ok (.iload 7, 2) := by decide +kernel
theorem dX0_recordBehind_38 : decode cX0_recordBehind 38 = .ok (.iload 5, 2) := by decide +kernel
theorem dX0_recordBehind_40 : decode cX0_recordBehind 40 = .ok (.iload 4, 2) := by decide +kernel
theorem dX0_recordBehind_42 : decode cX0_recordBehind 42 = .ok (.invokevirtual 37, 3) := by decide +kernel
theorem dX0_recordBehind_45 : decode cX0_recordBehind 45 = .ok (.istore 8, 2) := by decide +kernel
theorem dX0_recordBehind_47 : decode cX0_recordBehind 47 = .ok (.iload 8, 2) := by decide +kernel
theorem dX0_recordBehind_49 : decode cX0_recordBehind 49 = .ok (.iconst (-1), 1) := by decide +kernel
theorem dX0_recordBehind_50 : decode cX0_recordBehind 50 = .ok (.if_icmp .ne 6, 3) := by decide +kernel
theorem dX0_recordBehind_53 : decode cX0_recordBehind 53 = .ok (.bipush (-12), 2) := by decide +kernel
theorem dX0_recordBehind_55 : decode cX0_recordBehind 55 = .ok (.ireturn, 1) := by decide +kernel
theorem dX0_recordBehind_56 : decode cX0_recordBehind 56 = .ok (.aload_n 0, 1) := by decide +kernel
theorem dX0_recordBehind_57 : decode cX0_recordBehind 57 = .ok (.getfield 21, 3) := by decide +kernel
theorem dX0_recordBehind_60 : decode cX0_recordBehind 60 = .ok (.iload 7, 2) := by decide +kernel
theorem dX0_recordBehind_62 : decode cX0_recordBehind 62 = .ok (.iload 8, 2) := by decide +kernel
theorem dX0_recordBehind_64 : decode cX0_recordBehind 64 = .ok (.iload_n 3, 1) := by decide +kernel
theorem dX0_recordBehind_65 : decode cX0_recordBehind 65 = .ok (.iload 4, 2) := by decide +kernel
theorem dX0_recordBehind_67 : decode cX0_recordBehind 67 = .ok (.invokevirtual 40, 3) := by decide +kernel
theorem dX0_recordBehind_70 : decode cX0_recordBehind 70 = .ok (.istore 9, 2) := by decide +kernel
theorem dX0_recordBehind_72 : decode cX0_recordBehind 72 = .ok (.iload 9, 2) := by decide +kernel
theorem dX0_recordBehind_74 : decode cX0_recordBehind 74 = .ok (.iconst (-1), 1) := by decide +kernel
theorem dX0_recordBehind_75 : decode cX0_recordBehind 75 = .ok (.if_icmp .eq 6, 3) := by decide +kernel
theorem dX0_recordBehind_78 : decode cX0_recordBehind 78 = .ok (.iload 9, 2) := by decide +kernel
theorem dX0_recordBehind_80 : decode cX0_recordBehind 80 = .ok (.ireturn, 1) := by decide +kernel
theorem dX0_recordBehind_81 : decode cX0_recordBehind 81 = .ok (.aload_n 0, 1) := by decide +kernel
theorem dX0_recordBehind_82 : decode cX0_recordBehind 82 = .ok (.getfield 21, 3) := by decide +kernel
theorem dX0_recordBehind_85 : decode cX0_recordBehind 85 = .ok (.iload 7, 2) := by decide +kernel
theorem dX0_recordBehind_87 : decode cX0_recordBehind 87 = .ok (.iload 8, 2) := by decide +kernel
theorem dX0_recordBehind_89 : decode cX0_recordBehind 89 = .ok (.iconst 1, 1) := by decide +kernel
theorem dX0_recordBehind_90 : decode cX0_recordBehind 90 = .ok (.iload 4, 2) := by decide +kernel
theorem dX0_recordBehind_92 : decode cX0_recordBehind 92 = .ok (.invokevirtual 40, 3) := by decide +kernel
theorem dX0_recordBehind_95 : decode cX0_recordBehind 95 = .ok (.istore 10, 2) := by decide +kernel
theorem dX0_recordBehind_97 : decode cX0_recordBehind 97 = .ok (.iload 10, 2) := by decide +kernel
theorem dX0_recordBehind_99 : decode cX0_recordBehind 99 = .ok (.iconst (-1), 1) := by decide +kernel
theorem dX0_recordBehind_100 : decode cX0_recordBehind 100 = .ok (.if_icmp .ne 6, 3) := by decide +kernel
theorem dX0_recordBehind_103 : decode cX0_recordBehind 103 = .ok (.bipush (-13), 2) := by decide +kernel
theorem dX0_recordBehind_105 : decode cX0_recordBehind 105 = .ok (.ireturn, 1) := by decide +kernel
theorem dX0_recordBehind_106 : decode cX0_recordBehind 106 = .ok (.aload_n 0, 1) := by decide +kernel
theorem dX0_recordBehind_107 : decode cX0_recordBehind 107 = .ok (.getfield 21, 3) := by decide +kernel
theorem dX0_recordBehind_110 : decode cX0_recordBehind 110 = .ok (.getfield 29, 3) := by decide +kernel
theorem dX0_recordBehind_113 : decode cX0_recordBehind 113 = .ok (.iload 10, 2) := by decide +kernel
theorem dX0_recordBehind_115 : decode cX0_recordBehind 115 = .ok (.iaload, 1) := by decide +kernel
theorem dX0_recordBehind_116 : decode cX0_recordBehind 116 = .ok (.istore 5, 2) := by decide +kernel
theorem dX0_recordBehind_118 : decode cX0_recordBehind 118 = .ok (.iinc 6 1, 3) := by decide +kernel
theorem dX0_recordBehind_121 : decode cX0_recordBehind 121 = .ok (.goto (-115), 3) := by decide +kernel
theorem dX0_recordBehind_124 : decode cX0_recordBehind 124 = .ok (.bipush (-14), 2) := by decide +kernel
theorem dX0_recordBehind_126 : decode cX0_recordBehind 126 = .ok (.ireturn, 1) := by decide +kernel
theorem dX0_standingFor_0 : decode cX0_standingFor 0 = .ok (.aload_n 0, 1) := by decide +kernel
theorem dX0_standingFor_1 : decode cX0_standingFor 1 = .ok (.getfield 21, 3) := by decide +kernel
theorem dX0_standingFor_4 : decode cX0_standingFor 4 = .ok (.iload_n 1, 1) := by decide +kernel
theorem dX0_standingFor_5 : decode cX0_standingFor 5 = .ok (.iload_n 2, 1) := by decide +kernel
theorem dX0_standingFor_6 : decode cX0_standingFor 6 = .ok (.iload_n 3, 1) := by decide +kernel
theorem dX0_standingFor_7 : decode cX0_standingFor 7 = .ok (.invokevirtual 43, 3) := by decide +kernel
theorem dX0_standingFor_10 : decode cX0_standingFor 10 = .ok (.ifCond .eq 5, 3) := by decide +kernel
theorem dX0_standingFor_13 : decode cX0_standingFor 13 = .ok (.iload_n 2, 1) := by decide +kernel
theorem dX0_standingFor_14 : decode cX0_standingFor 14 = .ok (.ireturn, 1) := by decide +kernel
theorem dX0_standingFor_15 : decode cX0_standingFor 15 = .ok (.iload_n 2, 1) := by decide +kernel
theorem dX0_standingFor_16 : decode cX0_standingFor 16 = .ok (.invokestatic 47, 3) := by decide +kernel
theorem dX0_standingFor_19 : decode cX0_standingFor 19 = .ok (.ifCond .eq 5, 3) := by decide +kernel
theorem dX0_standingFor_22 : decode cX0_standingFor 22 = .ok (.iconst (-1), 1) := by decide +kernel
theorem dX0_standingFor_23 : decode cX0_standingFor 23 = .ok (.ireturn, 1) := by decide +kernel
theorem dX0_standingFor_24 : decode cX0_standingFor 24 = .ok (.iload_n 2, 1) := by decide +kernel
theorem dX0_standingFor_25 : decode cX0_standingFor 25 = .ok (.invokestatic 53, 3) := by decide +kernel
theorem dX0_standingFor_28 : decode cX0_standingFor 28 = .ok (.istore 4, 2) := by decide +kernel
theorem dX0_standingFor_30 : decode cX0_standingFor 30 = .ok (.iload 4, 2) := by decide +kernel
theorem dX0_standingFor_32 : decode cX0_standingFor 32 = .ok (.aload_n 0, 1) := by decide +kernel
theorem dX0_standingFor_33 : decode cX0_standingFor 33 = .ok (.getfield 12, 3) := by decide +kernel
theorem dX0_standingFor_36 : decode cX0_standingFor 36 = .ok (.getfield 57, 3) := by decide +kernel
theorem dX0_standingFor_39 : decode cX0_standingFor 39 = .ok (.iload_n 1, 1) := by decide +kernel
theorem dX0_standingFor_40 : decode cX0_standingFor 40 = .ok (.iaload, 1) := by decide +kernel
theorem dX0_standingFor_41 : decode cX0_standingFor 41 = .ok (.invokestatic 60, 3) := by decide +kernel
theorem dX0_standingFor_44 : decode cX0_standingFor 44 = .ok (.ifCond .eq 21, 3) := by decide +kernel
theorem dX0_standingFor_47 : decode cX0_standingFor 47 = .ok (.aload_n 0, 1) := by decide +kernel
theorem dX0_standingFor_48 : decode cX0_standingFor 48 = .ok (.getfield 21, 3) := by decide +kernel
theorem dX0_standingFor_51 : decode cX0_standingFor 51 = .ok (.iload_n 1, 1) := by decide +kernel
theorem dX0_standingFor_52 : decode cX0_standingFor 52 = .ok (.iload 4, 2) := by decide +kernel
theorem dX0_standingFor_54 : decode cX0_standingFor 54 = .ok (.iload_n 3, 1) := by decide +kernel
theorem dX0_standingFor_55 : decode cX0_standingFor 55 = .ok (.invokevirtual 43, 3) := by decide +kernel
theorem dX0_standingFor_58 : decode cX0_standingFor 58 = .ok (.ifCond .eq 7, 3) := by decide +kernel
theorem dX0_standingFor_61 : decode cX0_standingFor 61 = .ok (.iconst 1, 1) := by decide +kernel
theorem dX0_standingFor_62 : decode cX0_standingFor 62 = .ok (.goto 4, 3) := by decide +kernel
theorem dX0_standingFor_65 : decode cX0_standingFor 65 = .ok (.iconst 0, 1) := by decide +kernel
theorem dX0_standingFor_66 : decode cX0_standingFor 66 = .ok (.istore 5, 2) := by decide +kernel
theorem dX0_standingFor_68 : decode cX0_standingFor 68 = .ok (.iload 5, 2) := by decide +kernel
theorem dX0_standingFor_70 : decode cX0_standingFor 70 = .ok (.ifCond .eq 8, 3) := by decide +kernel
theorem dX0_standingFor_73 : decode cX0_standingFor 73 = .ok (.iload 4, 2) := by decide +kernel
theorem dX0_standingFor_75 : decode cX0_standingFor 75 = .ok (.goto 4, 3) := by decide +kernel
theorem dX0_standingFor_78 : decode cX0_standingFor 78 = .ok (.iconst (-1), 1) := by decide +kernel
theorem dX0_standingFor_79 : decode cX0_standingFor 79 = .ok (.ireturn, 1) := by decide +kernel
theorem dX0_countRecords_0 : decode cX0_countRecords 0 = .ok (.iconst 0, 1) := by decide +kernel
theorem dX0_countRecords_1 : decode cX0_countRecords 1 = .ok (.istore_n 2, 1) := by decide +kernel
theorem dX0_countRecords_2 : decode cX0_countRecords 2 = .ok (.iconst 0, 1) := by decide +kernel
theorem dX0_countRecords_3 : decode cX0_countRecords 3 = .ok (.istore_n 3, 1) := by decide +kernel
theorem dX0_countRecords_4 : decode cX0_countRecords 4 = .ok (.iload_n 3, 1) := by decide +kernel
theorem dX0_countRecords_5 : decode cX0_countRecords 5 = .ok (.aload_n 0, 1) := by decide +kernel
theorem dX0_countRecords_6 : decode cX0_countRecords 6 = .ok (.getfield 12, 3) := by decide +kernel
theorem dX0_countRecords_9 : decode cX0_countRecords 9 = .ok (.getfield 64, 3) := by decide +kernel
theorem dX0_countRecords_12 : decode cX0_countRecords 12 = .ok (.getfield 68, 3) := by decide +kernel
theorem dX0_countRecords_15 : decode cX0_countRecords 15 = .ok (.if_icmp .ge 36, 3) := by decide +kernel
theorem dX0_countRecords_18 : decode cX0_countRecords 18 = .ok (.aload_n 0, 1) := by decide +kernel
theorem dX0_countRecords_19 : decode cX0_countRecords 19 = .ok (.getfield 12, 3) := by decide +kernel
theorem dX0_countRecords_22 : decode cX0_countRecords 22 = .ok (.getfield 64, 3) := by decide +kernel
theorem dX0_countRecords_25 : decode cX0_countRecords 25 = .ok (.iload_n 3, 1) := by decide +kernel
theorem dX0_countRecords_26 : decode cX0_countRecords 26 = .ok (.iload_n 1, 1) := by decide +kernel
theorem dX0_countRecords_27 : decode cX0_countRecords 27 = .ok (.invokevirtual 74, 3) := by decide +kernel
theorem dX0_countRecords_30 : decode cX0_countRecords 30 = .ok (.ifCond .eq 15, 3) := by decide +kernel
theorem dX0_countRecords_33 : decode cX0_countRecords 33 = .ok (.iload_n 2, 1) := by decide +kernel
theorem dX0_countRecords_34 : decode cX0_countRecords 34 = .ok (.aload_n 0, 1) := by decide +kernel
theorem dX0_countRecords_35 : decode cX0_countRecords 35 = .ok (.getfield 21, 3) := by decide +kernel
theorem dX0_countRecords_38 : decode cX0_countRecords 38 = .ok (.iload_n 3, 1) := by decide +kernel
theorem dX0_countRecords_39 : decode cX0_countRecords 39 = .ok (.iload_n 1, 1) := by decide +kernel
theorem dX0_countRecords_40 : decode cX0_countRecords 40 = .ok (.invokevirtual 77, 3) := by decide +kernel
theorem dX0_countRecords_43 : decode cX0_countRecords 43 = .ok (.iadd, 1) := by decide +kernel
theorem dX0_countRecords_44 : decode cX0_countRecords 44 = .ok (.istore_n 2, 1) := by decide +kernel
theorem dX0_countRecords_45 : decode cX0_countRecords 45 = .ok (.iinc 3 1, 3) := by decide +kernel
theorem dX0_countRecords_48 : decode cX0_countRecords 48 = .ok (.goto (-44), 3) := by decide +kernel
theorem dX0_countRecords_51 : decode cX0_countRecords 51 = .ok (.iload_n 2, 1) := by decide +kernel
theorem dX0_countRecords_52 : decode cX0_countRecords 52 = .ok (.ireturn, 1) := by decide +kernel
theorem dX0_lastEvent_0 : decode cX0_lastEvent 0 = .ok (.iconst 0, 1) := by decide +kernel
theorem dX0_lastEvent_1 : decode cX0_lastEvent 1 = .ok (.istore_n 2, 1) := by decide +kernel
theorem dX0_lastEvent_2 : decode cX0_lastEvent 2 = .ok (.iconst 0, 1) := by decide +kernel
theorem dX0_lastEvent_3 : decode cX0_lastEvent 3 = .ok (.istore_n 3, 1) := by decide +kernel
theorem dX0_lastEvent_4 : decode cX0_lastEvent 4 = .ok (.iload_n 3, 1) := by decide +kernel
theorem dX0_lastEvent_5 : decode cX0_lastEvent 5 = .ok (.aload_n 0, 1) := by decide +kernel
theorem dX0_lastEvent_6 : decode cX0_lastEvent 6 = .ok (.getfield 12, 3) := by decide +kernel
theorem dX0_lastEvent_9 : decode cX0_lastEvent 9 = .ok (.getfield 64, 3) := by decide +kernel
theorem dX0_lastEvent_12 : decode cX0_lastEvent 12 = .ok (.getfield 68, 3) := by decide +kernel
theorem dX0_lastEvent_15 : decode cX0_lastEvent 15 = .ok (.if_icmp .ge 45, 3) := by decide +kernel
theorem dX0_lastEvent_18 : decode cX0_lastEvent 18 = .ok (.iload_n 1, 1) := by decide +kernel
theorem dX0_lastEvent_19 : decode cX0_lastEvent 19 = .ok (.iload_n 2, 1) := by decide +kernel
theorem dX0_lastEvent_20 : decode cX0_lastEvent 20 = .ok (.aload_n 0, 1) := by decide +kernel
theorem dX0_lastEvent_21 : decode cX0_lastEvent 21 = .ok (.getfield 12, 3) := by decide +kernel
theorem dX0_lastEvent_24 : decode cX0_lastEvent 24 = .ok (.getfield 64, 3) := by decide +kernel
theorem dX0_lastEvent_27 : decode cX0_lastEvent 27 = .ok (.getfield 81, 3) := by decide +kernel
theorem dX0_lastEvent_30 : decode cX0_lastEvent 30 = .ok (.iload_n 3, 1) := by decide +kernel
theorem dX0_lastEvent_31 : decode cX0_lastEvent 31 = .ok (.iaload, 1) := by decide +kernel
theorem dX0_lastEvent_32 : decode cX0_lastEvent 32 = .ok (.invokestatic 84, 3) := by decide +kernel
theorem dX0_lastEvent_35 : decode cX0_lastEvent 35 = .ok (.istore_n 2, 1) := by decide +kernel
theorem dX0_lastEvent_36 : decode cX0_lastEvent 36 = .ok (.iload_n 1, 1) := by decide +kernel
theorem dX0_lastEvent_37 : decode cX0_lastEvent 37 = .ok (.iload_n 2, 1) := by decide +kernel
theorem dX0_lastEvent_38 : decode cX0_lastEvent 38 = .ok (.aload_n 0, 1) := by decide +kernel
theorem dX0_lastEvent_39 : decode cX0_lastEvent 39 = .ok (.getfield 12, 3) := by decide +kernel
theorem dX0_lastEvent_42 : decode cX0_lastEvent 42 = .ok (.getfield 64, 3) := by decide +kernel
theorem dX0_lastEvent_45 : decode cX0_lastEvent 45 = .ok (.getfield 87, 3) := by decide +kernel
theorem dX0_lastEvent_48 : decode cX0_lastEvent 48 = .ok (.iload_n 3, 1) := by decide +kernel
theorem dX0_lastEvent_49 : decode cX0_lastEvent 49 = .ok (.iaload, 1) := by decide +kernel
theorem dX0_lastEvent_50 : decode cX0_lastEvent 50 = .ok (.invokestatic 84, 3) := by decide +kernel
theorem dX0_lastEvent_53 : decode cX0_lastEvent 53 = .ok (.istore_n 2, 1) := by decide +kernel
theorem dX0_lastEvent_54 : decode cX0_lastEvent 54 = .ok (.iinc 3 1, 3) := by decide +kernel
theorem dX0_lastEvent_57 : decode cX0_lastEvent 57 = .ok (.goto (-53), 3) := by decide +kernel
theorem dX0_lastEvent_60 : decode cX0_lastEvent 60 = .ok (.iconst 0, 1) := by decide +kernel
theorem dX0_lastEvent_61 : decode cX0_lastEvent 61 = .ok (.istore_n 3, 1) := by decide +kernel
theorem dX0_lastEvent_62 : decode cX0_lastEvent 62 = .ok (.iload_n 3, 1) := by decide +kernel
theorem dX0_lastEvent_63 : decode cX0_lastEvent 63 = .ok (.aload_n 0, 1) := by decide +kernel
theorem dX0_lastEvent_64 : decode cX0_lastEvent 64 = .ok (.getfield 21, 3) := by decide +kernel
theorem dX0_lastEvent_67 : decode cX0_lastEvent 67 = .ok (.getfield 90, 3) := by decide +kernel
theorem dX0_lastEvent_70 : decode cX0_lastEvent 70 = .ok (.getfield 68, 3) := by decide +kernel
theorem dX0_lastEvent_73 : decode cX0_lastEvent 73 = .ok (.if_icmp .ge 27, 3) := by decide +kernel
theorem dX0_lastEvent_76 : decode cX0_lastEvent 76 = .ok (.iload_n 1, 1) := by decide +kernel
theorem dX0_lastEvent_77 : decode cX0_lastEvent 77 = .ok (.iload_n 2, 1) := by decide +kernel
theorem dX0_lastEvent_78 : decode cX0_lastEvent 78 = .ok (.aload_n 0, 1) := by decide +kernel
theorem dX0_lastEvent_79 : decode cX0_lastEvent 79 = .ok (.getfield 21, 3) := by decide +kernel
theorem dX0_lastEvent_82 : decode cX0_lastEvent 82 = .ok (.getfield 90, 3) := by decide +kernel
theorem dX0_lastEvent_85 : decode cX0_lastEvent 85 = .ok (.getfield 81, 3) := by decide +kernel
theorem dX0_lastEvent_88 : decode cX0_lastEvent 88 = .ok (.iload_n 3, 1) := by decide +kernel
theorem dX0_lastEvent_89 : decode cX0_lastEvent 89 = .ok (.iaload, 1) := by decide +kernel
theorem dX0_lastEvent_90 : decode cX0_lastEvent 90 = .ok (.invokestatic 84, 3) := by decide +kernel
theorem dX0_lastEvent_93 : decode cX0_lastEvent 93 = .ok (.istore_n 2, 1) := by decide +kernel
theorem dX0_lastEvent_94 : decode cX0_lastEvent 94 = .ok (.iinc 3 1, 3) := by decide +kernel
theorem dX0_lastEvent_97 : decode cX0_lastEvent 97 = .ok (.goto (-35), 3) := by decide +kernel
theorem dX0_lastEvent_100 : decode cX0_lastEvent 100 = .ok (.iload_n 2, 1) := by decide +kernel
theorem dX0_lastEvent_101 : decode cX0_lastEvent 101 = .ok (.ireturn, 1) := by decide +kernel
theorem dX0_laterUpTo_0 : decode cX0_laterUpTo 0 = .ok (.iload_n 2, 1) := by decide +kernel
theorem dX0_laterUpTo_1 : decode cX0_laterUpTo 1 = .ok (.iload_n 0, 1) := by decide +kernel
theorem dX0_laterUpTo_2 : decode cX0_laterUpTo 2 = .ok (.if_icmp .gt 11, 3) := by decide +kernel
theorem dX0_laterUpTo_5 : decode cX0_laterUpTo 5 = .ok (.iload_n 1, 1) := by decide +kernel
theorem dX0_laterUpTo_6 : decode cX0_laterUpTo 6 = .ok (.iload_n 2, 1) := by decide +kernel
theorem dX0_laterUpTo_7 : decode cX0_laterUpTo 7 = .ok (.invokestatic 91, 3) := by decide +kernel
theorem dX0_laterUpTo_10 : decode cX0_laterUpTo 10 = .ok (.goto 4, 3) := by decide +kernel
theorem dX0_laterUpTo_13 : decode cX0_laterUpTo 13 = .ok (.iload_n 1, 1) := by decide +kernel
theorem dX0_laterUpTo_14 : decode cX0_laterUpTo 14 = .ok (.ireturn, 1) := by decide +kernel
