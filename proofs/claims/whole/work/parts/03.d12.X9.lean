theorem dX9_count_142 : decode cX9_count 142 = .ok (.istore_n 2, 1) := by decide +kernel
theorem dX9_count_143 : decode cX9_count 143 = .ok (.iinc 3 1, 3) := by decide +kernel
theorem dX9_count_146 : decode cX9_count 146 = .ok (.goto (-31), 3) := by decide +kernel
theorem dX9_count_149 : decode cX9_count 149 = .ok (.iload_n 2, 1) := by decide +kernel
theorem dX9_count_150 : decode cX9_count 150 = .ok (.ireturn, 1) := by decide +kernel
theorem dX9_count_151 : decode cX9_count 151 = .ok (.aload_n 0, 1) := by decide +kernel
theorem dX9_count_152 : decode cX9_count 152 = .ok (.getfield 91, 3) := by decide +kernel
theorem dX9_count_155 : decode cX9_count 155 = .ok (.ireturn, 1) := by decide +kernel
theorem dX9_count_156 : decode cX9_count 156 = .ok (.aload_n 0, 1) := by decide +kernel
theorem dX9_count_157 : decode cX9_count 157 = .ok (.getfield 94, 3) := by decide +kernel
theorem dX9_count_160 : decode cX9_count 160 = .ok (.ireturn, 1) := by decide +kernel
theorem dX9_count_161 : decode cX9_count 161 = .ok (.aload_n 0, 1) := by decide +kernel
theorem dX9_count_162 : decode cX9_count 162 = .ok (.getfield 97, 3) := by decide +kernel
theorem dX9_count_165 : decode cX9_count 165 = .ok (.ireturn, 1) := by decide +kernel
theorem dX9_count_166 : decode cX9_count 166 = .ok (.iconst (-1), 1) := by decide +kernel
theorem dX9_count_167 : decode cX9_count 167 = .ok (.ireturn, 1) := by decide +kernel
theorem dX9_part_0 : decode cX9_part 0 = .ok (.aload_n 0, 1) := by decide +kernel
theorem dX9_part_1 : decode cX9_part 1 = .ok (.getfield 16, 3) := by decide +kernel
theorem dX9_part_4 : decode cX9_part 4 = .ok (.iconst 5, 1) := by decide +kernel
theorem dX9_part_5 : decode cX9_part 5 = .ok (.iload_n 1, 1) := by decide +kernel
theorem dX9_part_6 : decode cX9_part 6 = .ok (.imul, 1) := by decide +kernel
theorem dX9_part_7 : decode cX9_part 7 = .ok (.iload_n 2, 1) := by decide +kernel
theorem dX9_part_8 : decode cX9_part 8 = .ok (.iadd, 1) := by decide +kernel
theorem dX9_part_9 : decode cX9_part 9 = .ok (.iaload, 1) := by decide +kernel
theorem dX9_part_10 : decode cX9_part 10 = .ok (.ireturn, 1) := by decide +kernel
theorem dX9_valueAt_0 : decode cX9_valueAt 0 = .ok (.iconst (-1), 1) := by decide +kernel
theorem dX9_valueAt_1 : decode cX9_valueAt 1 = .ok (.istore 5, 2) := by decide +kernel
theorem dX9_valueAt_3 : decode cX9_valueAt 3 = .ok (.iconst 0, 1) := by decide +kernel
theorem dX9_valueAt_4 : decode cX9_valueAt 4 = .ok (.istore 6, 2) := by decide +kernel
theorem dX9_valueAt_6 : decode cX9_valueAt 6 = .ok (.iload 6, 2) := by decide +kernel
theorem dX9_valueAt_8 : decode cX9_valueAt 8 = .ok (.aload_n 0, 1) := by decide +kernel
theorem dX9_valueAt_9 : decode cX9_valueAt 9 = .ok (.getfield 91, 3) := by decide +kernel
theorem dX9_valueAt_12 : decode cX9_valueAt 12 = .ok (.if_icmp .ge 80, 3) := by decide +kernel
theorem dX9_valueAt_15 : decode cX9_valueAt 15 = .ok (.aload_n 0, 1) := by decide +kernel
theorem dX9_valueAt_16 : decode cX9_valueAt 16 = .ok (.iload 6, 2) := by decide +kernel
theorem dX9_valueAt_18 : decode cX9_valueAt 18 = .ok (.iconst 0, 1) := by decide +kernel
theorem dX9_valueAt_19 : decode cX9_valueAt 19 = .ok (.invokevirtual 100, 3) := by decide +kernel
theorem dX9_valueAt_22 : decode cX9_valueAt 22 = .ok (.iload_n 1, 1) := by decide +kernel
theorem dX9_valueAt_23 : decode cX9_valueAt 23 = .ok (.if_icmp .ne 41, 3) := by decide +kernel
theorem dX9_valueAt_26 : decode cX9_valueAt 26 = .ok (.aload_n 0, 1) := by decide +kernel
theorem dX9_valueAt_27 : decode cX9_valueAt 27 = .ok (.iload 6, 2) := by decide +kernel
theorem dX9_valueAt_29 : decode cX9_valueAt 29 = .ok (.iconst 1, 1) := by decide +kernel
theorem dX9_valueAt_30 : decode cX9_valueAt 30 = .ok (.invokevirtual 100, 3) := by decide +kernel
theorem dX9_valueAt_33 : decode cX9_valueAt 33 = .ok (.iload 4, 2) := by decide +kernel
theorem dX9_valueAt_35 : decode cX9_valueAt 35 = .ok (.if_icmp .gt 29, 3) := by decide +kernel
theorem dX9_valueAt_38 : decode cX9_valueAt 38 = .ok (.aload_n 0, 1) := by decide +kernel
theorem dX9_valueAt_39 : decode cX9_valueAt 39 = .ok (.iload 6, 2) := by decide +kernel
theorem dX9_valueAt_41 : decode cX9_valueAt 41 = .ok (.iconst 2, 1) := by decide +kernel
theorem dX9_valueAt_42 : decode cX9_valueAt 42 = .ok (.invokevirtual 100, 3) := by decide +kernel
theorem dX9_valueAt_45 : decode cX9_valueAt 45 = .ok (.iload_n 2, 1) := by decide +kernel
theorem dX9_valueAt_46 : decode cX9_valueAt 46 = .ok (.if_icmp .ne 18, 3) := by decide +kernel
theorem dX9_valueAt_49 : decode cX9_valueAt 49 = .ok (.aload_n 0, 1) := by decide +kernel
theorem dX9_valueAt_50 : decode cX9_valueAt 50 = .ok (.iload 6, 2) := by decide +kernel
theorem dX9_valueAt_52 : decode cX9_valueAt 52 = .ok (.iconst 3, 1) := by decide +kernel
theorem dX9_valueAt_53 : decode cX9_valueAt 53 = .ok (.invokevirtual 100, 3) := by decide +kernel
theorem dX9_valueAt_56 : decode cX9_valueAt 56 = .ok (.iload_n 3, 1) := by decide +kernel
theorem dX9_valueAt_57 : decode cX9_valueAt 57 = .ok (.if_icmp .ne 7, 3) := by decide +kernel
theorem dX9_valueAt_60 : decode cX9_valueAt 60 = .ok (.iconst 1, 1) := by decide +kernel
theorem dX9_valueAt_61 : decode cX9_valueAt 61 = .ok (.goto 4, 3) := by decide +kernel
theorem dX9_valueAt_64 : decode cX9_valueAt 64 = .ok (.iconst 0, 1) := by decide +kernel
theorem dX9_valueAt_65 : decode cX9_valueAt 65 = .ok (.istore 7, 2) := by decide +kernel
theorem dX9_valueAt_67 : decode cX9_valueAt 67 = .ok (.iload 7, 2) := by decide +kernel
theorem dX9_valueAt_69 : decode cX9_valueAt 69 = .ok (.ifCond .eq 13, 3) := by decide +kernel
theorem dX9_valueAt_72 : decode cX9_valueAt 72 = .ok (.aload_n 0, 1) := by decide +kernel
theorem dX9_valueAt_73 : decode cX9_valueAt 73 = .ok (.iload 6, 2) := by decide +kernel
theorem dX9_valueAt_75 : decode cX9_valueAt 75 = .ok (.iconst 4, 1) := by decide +kernel
theorem dX9_valueAt_76 : decode cX9_valueAt 76 = .ok (.invokevirtual 100, 3) := by decide +kernel
theorem dX9_valueAt_79 : decode cX9_valueAt 79 = .ok (.goto 5, 3) := by decide +kernel
theorem dX9_valueAt_82 : decode cX9_valueAt 82 = .ok (.iload 5, 2) := by decide +kernel
theorem dX9_valueAt_84 : decode cX9_valueAt 84 = .ok (.istore 5, 2) := by decide +kernel
theorem dX9_valueAt_86 : decode cX9_valueAt 86 = .ok (.iinc 6 1, 3) := by decide +kernel
theorem dX9_valueAt_89 : decode cX9_valueAt 89 = .ok (.goto (-83), 3) := by decide +kernel
theorem dX9_valueAt_92 : decode cX9_valueAt 92 = .ok (.iload 5, 2) := by decide +kernel
theorem dX9_valueAt_94 : decode cX9_valueAt 94 = .ok (.ireturn, 1) := by decide +kernel
theorem dX9_records_0 : decode cX9_records 0 = .ok (.iconst 0, 1) := by decide +kernel
theorem dX9_records_1 : decode cX9_records 1 = .ok (.istore_n 2, 1) := by decide +kernel
theorem dX9_records_2 : decode cX9_records 2 = .ok (.iconst 1, 1) := by decide +kernel
theorem dX9_records_3 : decode cX9_records 3 = .ok (.istore_n 3, 1) := by decide +kernel
theorem dX9_records_4 : decode cX9_records 4 = .ok (.iload_n 3, 1) := by decide +kernel
theorem dX9_records_5 : decode cX9_records 5 = .ok (.bipush 124, 2) := by decide +kernel
theorem dX9_records_7 : decode cX9_records 7 = .ok (.if_icmp .gt 47, 3) := by decide +kernel
theorem dX9_records_10 : decode cX9_records 10 = .ok (.iconst 0, 1) := by decide +kernel
theorem dX9_records_11 : decode cX9_records 11 = .ok (.istore 4, 2) := by decide +kernel
theorem dX9_records_13 : decode cX9_records 13 = .ok (.iload 4, 2) := by decide +kernel
theorem dX9_records_15 : decode cX9_records 15 = .ok (.iconst 3, 1) := by decide +kernel
theorem dX9_records_16 : decode cX9_records 16 = .ok (.if_icmp .ge 32, 3) := by decide +kernel
theorem dX9_records_19 : decode cX9_records 19 = .ok (.iload_n 2, 1) := by decide +kernel
theorem dX9_records_20 : decode cX9_records 20 = .ok (.aload_n 0, 1) := by decide +kernel
theorem dX9_records_21 : decode cX9_records 21 = .ok (.iload_n 1, 1) := by decide +kernel
theorem dX9_records_22 : decode cX9_records 22 = .ok (.iload_n 3, 1) := by decide +kernel
theorem dX9_records_23 : decode cX9_records 23 = .ok (.iload 4, 2) := by decide +kernel
theorem dX9_records_25 : decode cX9_records 25 = .ok (.aload_n 0, 1) := by decide +kernel
theorem dX9_records_26 : decode cX9_records 26 = .ok (.getfield 32, 3) := by decide +kernel
theorem dX9_records_29 : decode cX9_records 29 = .ok (.invokevirtual 103, 3) := by decide +kernel
theorem dX9_records_32 : decode cX9_records 32 = .ok (.ifCond .lt 7, 3) := by decide +kernel
theorem dX9_records_35 : decode cX9_records 35 = .ok (.iconst 1, 1) := by decide +kernel
theorem dX9_records_36 : decode cX9_records 36 = .ok (.goto 4, 3) := by decide +kernel
theorem dX9_records_39 : decode cX9_records 39 = .ok (.iconst 0, 1) := by decide +kernel
theorem dX9_records_40 : decode cX9_records 40 = .ok (.iadd, 1) := by decide +kernel
theorem dX9_records_41 : decode cX9_records 41 = .ok (.istore_n 2, 1) := by decide +kernel
theorem dX9_records_42 : decode cX9_records 42 = .ok (.iinc 4 1, 3) := by decide +kernel
theorem dX9_records_45 : decode cX9_records 45 = .ok (.goto (-32), 3) := by decide +kernel
theorem dX9_records_48 : decode cX9_records 48 = .ok (.iinc 3 1, 3) := by decide +kernel
theorem dX9_records_51 : decode cX9_records 51 = .ok (.goto (-47), 3) := by decide +kernel
theorem dX9_records_54 : decode cX9_records 54 = .ok (.iload_n 2, 1) := by decide +kernel
theorem dX9_records_55 : decode cX9_records 55 = .ok (.ireturn, 1) := by decide +kernel
theorem dX9_hasType_0 : decode cX9_hasType 0 = .ok (.aload_n 0, 1) := by decide +kernel
theorem dX9_hasType_1 : decode cX9_hasType 1 = .ok (.iload_n 1, 1) := by decide +kernel
theorem dX9_hasType_2 : decode cX9_hasType 2 = .ok (.iload_n 2, 1) := by decide +kernel
theorem dX9_hasType_3 : decode cX9_hasType 3 = .ok (.iconst 0, 1) := by decide +kernel
theorem dX9_hasType_4 : decode cX9_hasType 4 = .ok (.iload_n 3, 1) := by decide +kernel
theorem dX9_hasType_5 : decode cX9_hasType 5 = .ok (.invokevirtual 103, 3) := by decide +kernel
theorem dX9_hasType_8 : decode cX9_hasType 8 = .ok (.ifCond .ge 25, 3) := by decide +kernel
theorem dX9_hasType_11 : decode cX9_hasType 11 = .ok (.aload_n 0, 1) := by decide +kernel
theorem dX9_hasType_12 : decode cX9_hasType 12 = .ok (.iload_n 1, 1) := by decide +kernel
theorem dX9_hasType_13 : decode cX9_hasType 13 = .ok (.iload_n 2, 1) := by decide +kernel
theorem dX9_hasType_14 : decode cX9_hasType 14 = .ok (.iconst 1, 1) := by decide +kernel
theorem dX9_hasType_15 : decode cX9_hasType 15 = .ok (.iload_n 3, 1) := by decide +kernel
theorem dX9_hasType_16 : decode cX9_hasType 16 = .ok (.invokevirtual 103, 3) := by decide +kernel
theorem dX9_hasType_19 : decode cX9_hasType 19 = .ok (.ifCond .ge 14, 3) := by decide +kernel
theorem dX9_hasType_22 : decode cX9_hasType 22 = .ok (.aload_n 0, 1) := by decide +kernel
theorem dX9_hasType_23 : decode cX9_hasType 23 = .ok (.iload_n 1, 1) := by decide +kernel
theorem dX9_hasType_24 : decode cX9_hasType 24 = .ok (.iload_n 2, 1) := by decide +kernel
theorem dX9_hasType_25 : decode cX9_hasType 25 = .ok (.iconst 2, 1) := by decide +kernel
theorem dX9_hasType_26 : decode cX9_hasType 26 = .ok (.iload_n 3, 1) := by decide +kernel
theorem dX9_hasType_27 : decode cX9_hasType 27 = .ok (.invokevirtual 103, 3) := by decide +kernel
theorem dX9_hasType_30 : decode cX9_hasType 30 = .ok (.ifCond .lt 7, 3) := by decide +kernel
theorem dX9_hasType_33 : decode cX9_hasType 33 = .ok (.iconst 1, 1) := by decide +kernel
theorem dX9_hasType_34 : decode cX9_hasType 34 = .ok (.goto 4, 3) := by decide +kernel
theorem dX9_hasType_37 : decode cX9_hasType 37 = .ok (.iconst 0, 1) := by decide +kernel
theorem dX9_hasType_38 : decode cX9_hasType 38 = .ok (.ireturn, 1) := by decide +kernel
theorem dX9_exists_0 : decode cX9_exists 0 = .ok (.aload_n 0, 1) := by decide +kernel
theorem dX9_exists_1 : decode cX9_exists 1 = .ok (.iload_n 1, 1) := by decide +kernel
theorem dX9_exists_2 : decode cX9_exists 2 = .ok (.iload_n 2, 1) := by decide +kernel
theorem dX9_exists_3 : decode cX9_exists 3 = .ok (.iload_n 3, 1) := by decide +kernel
theorem dX9_exists_4 : decode cX9_exists 4 = .ok (.invokevirtual 107, 3) := by decide +kernel
theorem dX9_exists_7 : decode cX9_exists 7 = .ok (.istore 4, 2) := by decide +kernel
theorem dX9_exists_9 : decode cX9_exists 9 = .ok (.iconst 0, 1) := by decide +kernel
theorem dX9_exists_10 : decode cX9_exists 10 = .ok (.istore 5, 2) := by decide +kernel
theorem dX9_exists_12 : decode cX9_exists 12 = .ok (.iload 5, 2) := by decide +kernel
theorem dX9_exists_14 : decode cX9_exists 14 = .ok (.aload_n 0, 1) := by decide +kernel
theorem dX9_exists_15 : decode cX9_exists 15 = .ok (.getfield 91, 3) := by decide +kernel
theorem dX9_exists_18 : decode cX9_exists 18 = .ok (.if_icmp .ge 62, 3) := by decide +kernel
theorem dX9_exists_21 : decode cX9_exists 21 = .ok (.iload 4, 2) := by decide +kernel
theorem dX9_exists_23 : decode cX9_exists 23 = .ok (.ifCond .ne 57, 3) := by decide +kernel
theorem dX9_exists_26 : decode cX9_exists 26 = .ok (.aload_n 0, 1) := by decide +kernel
theorem dX9_exists_27 : decode cX9_exists 27 = .ok (.iload 5, 2) := by decide +kernel
theorem dX9_exists_29 : decode cX9_exists 29 = .ok (.iconst 0, 1) := by decide +kernel
theorem dX9_exists_30 : decode cX9_exists 30 = .ok (.invokevirtual 100, 3) := by decide +kernel
theorem dX9_exists_33 : decode cX9_exists 33 = .ok (.iload_n 1, 1) := by decide +kernel
theorem dX9_exists_34 : decode cX9_exists 34 = .ok (.if_icmp .ne 37, 3) := by decide +kernel
theorem dX9_exists_37 : decode cX9_exists 37 = .ok (.aload_n 0, 1) := by decide +kernel
theorem dX9_exists_38 : decode cX9_exists 38 = .ok (.iload 5, 2) := by decide +kernel
theorem dX9_exists_40 : decode cX9_exists 40 = .ok (.iconst 2, 1) := by decide +kernel
theorem dX9_exists_41 : decode cX9_exists 41 = .ok (.invokevirtual 100, 3) := by decide +kernel
theorem dX9_exists_44 : decode cX9_exists 44 = .ok (.iload_n 2, 1) := by decide +kernel
theorem dX9_exists_45 : decode cX9_exists 45 = .ok (.invokestatic 110, 3) := by decide +kernel
theorem dX9_exists_48 : decode cX9_exists 48 = .ok (.ifCond .eq 23, 3) := by decide +kernel
theorem dX9_exists_51 : decode cX9_exists 51 = .ok (.aload_n 0, 1) := by decide +kernel
theorem dX9_exists_52 : decode cX9_exists 52 = .ok (.iload_n 1, 1) := by decide +kernel
theorem dX9_exists_53 : decode cX9_exists 53 = .ok (.aload_n 0, 1) := by decide +kernel
theorem dX9_exists_54 : decode cX9_exists 54 = .ok (.iload 5, 2) := by decide +kernel
theorem dX9_exists_56 : decode cX9_exists 56 = .ok (.iconst 2, 1) := by decide +kernel
theorem dX9_exists_57 : decode cX9_exists 57 = .ok (.invokevirtual 100, 3) := by decide +kernel
theorem dX9_exists_60 : decode cX9_exists 60 = .ok (.iload_n 3, 1) := by decide +kernel
theorem dX9_exists_61 : decode cX9_exists 61 = .ok (.invokevirtual 107, 3) := by decide +kernel
theorem dX9_exists_64 : decode cX9_exists 64 = .ok (.ifCond .eq 7, 3) := by decide +kernel
theorem dX9_exists_67 : decode cX9_exists 67 = .ok (.iconst 1, 1) := by decide +kernel
theorem dX9_exists_68 : decode cX9_exists 68 = .ok (.goto 4, 3) := by decide +kernel
theorem dX9_exists_71 : decode cX9_exists 71 = .ok (.iconst 0, 1) := by decide +kernel
theorem dX9_exists_72 : decode cX9_exists 72 = .ok (.istore 4, 2) := by decide +kernel
theorem dX9_exists_74 : decode cX9_exists 74 = .ok (.iinc 5 1, 3) := by decide +kernel
theorem dX9_exists_77 : decode cX9_exists 77 = .ok (.goto (-65), 3) := by decide +kernel
theorem dX9_exists_80 : decode cX9_exists 80 = .ok (.iload 4, 2) := by decide +kernel
theorem dX9_exists_82 : decode cX9_exists 82 = .ok (.ireturn, 1) := by decide +kernel
theorem dX9_isType_0 : decode cX9_isType 0 = .ok (.iload_n 0, 1) := by decide +kernel
theorem dX9_isType_1 : decode cX9_isType 1 = .ok (.iconst 0, 1) := by decide +kernel
theorem dX9_isType_2 : decode cX9_isType 2 = .ok (.iconst 2, 1) := by decide +kernel
theorem dX9_isType_3 : decode cX9_isType 3 = .ok (.invokestatic 35, 3) := by decide +kernel
theorem dX9_isType_6 : decode cX9_isType 6 = .ok (.ireturn, 1) := by decide +kernel
theorem dX9_isValue_0 : decode cX9_isValue 0 = .ok (.iload_n 0, 1) := by decide +kernel
theorem dX9_isValue_1 : decode cX9_isValue 1 = .ok (.ifCond .ne 10, 3) := by decide +kernel
theorem dX9_isValue_4 : decode cX9_isValue 4 = .ok (.iload_n 1, 1) := by decide +kernel
theorem dX9_isValue_5 : decode cX9_isValue 5 = .ok (.invokestatic 54, 3) := by decide +kernel
theorem dX9_isValue_8 : decode cX9_isValue 8 = .ok (.goto 23, 3) := by decide +kernel
theorem dX9_isValue_11 : decode cX9_isValue 11 = .ok (.iload_n 0, 1) := by decide +kernel
theorem dX9_isValue_12 : decode cX9_isValue 12 = .ok (.iconst 1, 1) := by decide +kernel
theorem dX9_isValue_13 : decode cX9_isValue 13 = .ok (.if_icmp .ne 10, 3) := by decide +kernel
theorem dX9_isValue_16 : decode cX9_isValue 16 = .ok (.iload_n 1, 1) := by decide +kernel
theorem dX9_isValue_17 : decode cX9_isValue 17 = .ok (.invokestatic 76, 3) := by decide +kernel
theorem dX9_isValue_20 : decode cX9_isValue 20 = .ok (.goto 11, 3) := by decide +kernel
theorem dX9_isValue_23 : decode cX9_isValue 23 = .ok (.iload_n 1, 1) := by decide +kernel
theorem dX9_isValue_24 : decode cX9_isValue 24 = .ok (.iconst 0, 1) := by decide +kernel
theorem dX9_isValue_25 : decode cX9_isValue 25 = .ok (.sipush 999, 3) := by decide +kernel
theorem dX9_isValue_28 : decode cX9_isValue 28 = .ok (.invokestatic 35, 3) := by decide +kernel
theorem dX9_isValue_31 : decode cX9_isValue 31 = .ok (.ireturn, 1) := by decide +kernel
theorem dX9_makes_0 : decode cX9_makes 0 = .ok (.aload_n 0, 1) := by decide +kernel
theorem dX9_makes_1 : decode cX9_makes 1 = .ok (.getfield 16, 3) := by decide +kernel
theorem dX9_makes_4 : decode cX9_makes 4 = .ok (.iconst 5, 1) := by decide +kernel
theorem dX9_makes_5 : decode cX9_makes 5 = .ok (.aload_n 0, 1) := by decide +kernel
theorem dX9_makes_6 : decode cX9_makes 6 = .ok (.getfield 91, 3) := by decide +kernel
theorem dX9_makes_9 : decode cX9_makes 9 = .ok (.imul, 1) := by decide +kernel
theorem dX9_makes_10 : decode cX9_makes 10 = .ok (.iload_n 1, 1) := by decide +kernel
theorem dX9_makes_11 : decode cX9_makes 11 = .ok (.iastore, 1) := by decide +kernel
theorem dX9_makes_12 : decode cX9_makes 12 = .ok (.aload_n 0, 1) := by decide +kernel
theorem dX9_makes_13 : decode cX9_makes 13 = .ok (.getfield 16, 3) := by decide +kernel
theorem dX9_makes_16 : decode cX9_makes 16 = .ok (.iconst 5, 1) := by decide +kernel
theorem dX9_makes_17 : decode cX9_makes 17 = .ok (.aload_n 0, 1) := by decide +kernel
theorem dX9_makes_18 : decode cX9_makes 18 = .ok (.getfield 91, 3) := by decide +kernel
theorem dX9_makes_21 : decode cX9_makes 21 = .ok (.imul, 1) := by decide +kernel
theorem dX9_makes_22 : decode cX9_makes 22 = .ok (.iconst 1, 1) := by decide +kernel
theorem dX9_makes_23 : decode cX9_makes 23 = .ok (.iadd, 1) := by decide +kernel
theorem dX9_makes_24 : decode cX9_makes 24 = .ok (.aload_n 0, 1) := by decide +kernel
theorem dX9_makes_25 : decode cX9_makes 25 = .ok (.getfield 32, 3) := by decide +kernel
theorem dX9_makes_28 : decode cX9_makes 28 = .ok (.iastore, 1) := by decide +kernel
theorem dX9_makes_29 : decode cX9_makes 29 = .ok (.aload_n 0, 1) := by decide +kernel
theorem dX9_makes_30 : decode cX9_makes 30 = .ok (.getfield 16, 3) := by decide +kernel
theorem dX9_makes_33 : decode cX9_makes 33 = .ok (.iconst 5, 1) := by decide +kernel
theorem dX9_makes_34 : decode cX9_makes 34 = .ok (.aload_n 0, 1) := by decide +kernel
theorem dX9_makes_35 : decode cX9_makes 35 = .ok (.getfield 91, 3) := by decide +kernel
theorem dX9_makes_38 : decode cX9_makes 38 = .ok (.imul, 1) := by decide +kernel
theorem dX9_makes_39 : decode cX9_makes 39 = .ok (.iconst 2, 1) := by decide +kernel
theorem dX9_makes_40 : decode cX9_makes 40 = .ok (.iadd, 1) := by decide +kernel
theorem dX9_makes_41 : decode cX9_makes 41 = .ok (.iload_n 2, 1) := by decide +kernel
theorem dX9_makes_42 : decode cX9_makes 42 = .ok (.iastore, 1) := by decide +kernel
theorem dX9_makes_43 : decode cX9_makes 43 = .ok (.aload_n 0, 1) := by decide +kernel
theorem dX9_makes_44 : decode cX9_makes 44 = .ok (.getfield 16, 3) := by decide +kernel
theorem dX9_makes_47 : decode cX9_makes 47 = .ok (.iconst 5, 1) := by decide +kernel
theorem dX9_makes_48 : decode cX9_makes 48 = .ok (.aload_n 0, 1) := by decide +kernel
theorem dX9_makes_49 : decode cX9_makes 49 = .ok (.getfield 91, 3) := by decide +kernel
theorem dX9_makes_52 : decode cX9_makes 52 = .ok (.imul, 1) := by decide +kernel
theorem dX9_makes_53 : decode cX9_makes 53 = .ok (.iconst 3, 1) := by decide +kernel
theorem dX9_makes_54 : decode cX9_makes 54 = .ok (.iadd, 1) := by decide +kernel
theorem dX9_makes_55 : decode cX9_makes 55 = .ok (.iload_n 3, 1) := by decide +kernel
theorem dX9_makes_56 : decode cX9_makes 56 = .ok (.iastore, 1) := by decide +kernel
theorem dX9_makes_57 : decode cX9_makes 57 = .ok (.aload_n 0, 1) := by decide +kernel
theorem dX9_makes_58 : decode cX9_makes 58 = .ok (.getfield 16, 3) := by decide +kernel
theorem dX9_makes_61 : decode cX9_makes 61 = .ok (.iconst 5, 1) := by decide +kernel
theorem dX9_makes_62 : decode cX9_makes 62 = .ok (.aload_n 0, 1) := by decide +kernel
theorem dX9_makes_63 : decode cX9_makes 63 = .ok (.getfield 91, 3) := by decide +kernel
theorem dX9_makes_66 : decode cX9_makes 66 = .ok (.imul, 1) := by decide +kernel
theorem dX9_makes_67 : decode cX9_makes 67 = .ok (.iconst 4, 1) := by decide +kernel
theorem dX9_makes_68 : decode cX9_makes 68 = .ok (.iadd, 1) := by decide +kernel
theorem dX9_makes_69 : decode cX9_makes 69 = .ok (.iload 4, 2) := by decide +kernel
theorem dX9_makes_71 : decode cX9_makes 71 = .ok (.iastore, 1) := by decide +kernel
theorem dX9_makes_72 : decode cX9_makes 72 = .ok (.aload_n 0, 1) := by decide +kernel
theorem dX9_makes_73 : decode cX9_makes 73 = .ok (.dup, 1) := by decide +kernel
theorem dX9_makes_74 : decode cX9_makes 74 = .ok (.getfield 91, 3) := by decide +kernel
theorem dX9_makes_77 : decode cX9_makes 77 = .ok (.iconst 1, 1) := by decide +kernel
theorem dX9_makes_78 : decode cX9_makes 78 = .ok (.iadd, 1) := by decide +kernel
theorem dX9_makes_79 : decode cX9_makes 79 = .ok (.putfield 91, 3) := by decide +kernel
theorem dX9_makes_82 : decode cX9_makes 82 = .ok (.return_, 1) := by decide +kernel
theorem dX9_set_0 : decode cX9_set 0 = .ok (.aload_n 0, 1) := by decide +kernel
theorem dX9_set_1 : decode cX9_set 1 = .ok (.iload_n 1, 1) := by decide +kernel
theorem dX9_set_2 : decode cX9_set 2 = .ok (.invokevirtual 85, 3) := by decide +kernel
theorem dX9_set_5 : decode cX9_set 5 = .ok (.ifCond .eq 43, 3) := by decide +kernel
theorem dX9_set_8 : decode cX9_set 8 = .ok (.iload_n 2, 1) := by decide +kernel
theorem dX9_set_9 : decode cX9_set 9 = .ok (.invokestatic 76, 3) := by decide +kernel
theorem dX9_set_12 : decode cX9_set 12 = .ok (.ifCond .eq 36, 3) := by decide +kernel
theorem dX9_set_15 : decode cX9_set 15 = .ok (.iload_n 2, 1) := by decide +kernel
theorem dX9_set_16 : decode cX9_set 16 = .ok (.aload_n 0, 1) := by decide +kernel
theorem dX9_set_17 : decode cX9_set 17 = .ok (.getfield 13, 3) := by decide +kernel
theorem dX9_set_20 : decode cX9_set 20 = .ok (.iconst 4, 1) := by decide +kernel
theorem dX9_set_21 : decode cX9_set 21 = .ok (.iload_n 1, 1) := by decide +kernel
theorem dX9_set_22 : decode cX9_set 22 = .ok (.imul, 1) := by decide +kernel
theorem dX9_set_23 : decode cX9_set 23 = .ok (.iconst 1, 1) := by decide +kernel
theorem dX9_set_24 : decode cX9_set 24 = .ok (.iadd, 1) := by decide +kernel
theorem dX9_set_25 : decode cX9_set 25 = .ok (.iaload, 1) := by decide +kernel
theorem dX9_set_26 : decode cX9_set 26 = .ok (.invokestatic 50, 3) := by decide +kernel
theorem dX9_set_29 : decode cX9_set 29 = .ok (.ifCond .eq 19, 3) := by decide +kernel
theorem dX9_set_32 : decode cX9_set 32 = .ok (.iload_n 3, 1) := by decide +kernel
theorem dX9_set_33 : decode cX9_set 33 = .ok (.invokestatic 113, 3) := by decide +kernel
theorem dX9_set_36 : decode cX9_set 36 = .ok (.ifCond .eq 12, 3) := by decide +kernel
theorem dX9_set_39 : decode cX9_set 39 = .ok (.iload_n 3, 1) := by decide +kernel
theorem dX9_set_40 : decode cX9_set 40 = .ok (.iload 4, 2) := by decide +kernel
theorem dX9_set_42 : decode cX9_set 42 = .ok (.invokestatic 116, 3) := by decide +kernel
theorem dX9_set_45 : decode cX9_set 45 = .ok (.ifCond .ne 5, 3) := by decide +kernel
theorem dX9_set_48 : decode cX9_set 48 = .ok (.iconst (-1), 1) := by decide +kernel
theorem dX9_set_49 : decode cX9_set 49 = .ok (.ireturn, 1) := by decide +kernel
theorem dX9_set_50 : decode cX9_set 50 = .ok (.aload_n 0, 1) := by decide +kernel
theorem dX9_set_51 : decode cX9_set 51 = .ok (.iload_n 1, 1) := by decide +kernel
theorem dX9_set_52 : decode cX9_set 52 = .ok (.invokevirtual 82, 3) := by decide +kernel
theorem dX9_set_55 : decode cX9_set 55 = .ok (.ifCond .eq 6, 3) := by decide +kernel
theorem dX9_set_58 : decode cX9_set 58 = .ok (.bipush (-2), 2) := by decide +kernel
theorem dX9_set_60 : decode cX9_set 60 = .ok (.ireturn, 1) := by decide +kernel
theorem dX9_set_61 : decode cX9_set 61 = .ok (.aload_n 0, 1) := by decide +kernel
theorem dX9_set_62 : decode cX9_set 62 = .ok (.getfield 91, 3) := by decide +kernel
theorem dX9_set_65 : decode cX9_set 65 = .ok (.bipush 70, 2) := by decide +kernel
theorem dX9_set_67 : decode cX9_set 67 = .ok (.if_icmp .ne 6, 3) := by decide +kernel
theorem dX9_set_70 : decode cX9_set 70 = .ok (.bipush (-3), 2) := by decide +kernel
theorem dX9_set_72 : decode cX9_set 72 = .ok (.ireturn, 1) := by decide +kernel
theorem dX9_set_73 : decode cX9_set 73 = .ok (.aload_n 0, 1) := by decide +kernel
theorem dX9_set_74 : decode cX9_set 74 = .ok (.iload_n 1, 1) := by decide +kernel
theorem dX9_set_75 : decode cX9_set 75 = .ok (.iload_n 2, 1) := by decide +kernel
theorem dX9_set_76 : decode cX9_set 76 = .ok (.iload_n 3, 1) := by decide +kernel
theorem dX9_set_77 : decode cX9_set 77 = .ok (.iload 4, 2) := by decide +kernel
theorem dX9_set_79 : decode cX9_set 79 = .ok (.invokevirtual 119, 3) := by decide +kernel
theorem dX9_set_82 : decode cX9_set 82 = .ok (.aload_n 0, 1) := by decide +kernel
theorem dX9_set_83 : decode cX9_set 83 = .ok (.iload_n 1, 1) := by decide +kernel
theorem dX9_set_84 : decode cX9_set 84 = .ok (.invokevirtual 88, 3) := by decide +kernel
theorem dX9_set_87 : decode cX9_set 87 = .ok (.ireturn, 1) := by decide +kernel
theorem dX9_clear_0 : decode cX9_clear 0 = .ok (.aload_n 0, 1) := by decide +kernel
theorem dX9_clear_1 : decode cX9_clear 1 = .ok (.iload_n 1, 1) := by decide +kernel
theorem dX9_clear_2 : decode cX9_clear 2 = .ok (.invokevirtual 85, 3) := by decide +kernel
theorem dX9_clear_5 : decode cX9_clear 5 = .ok (.ifCond .eq 17, 3) := by decide +kernel
theorem dX9_clear_8 : decode cX9_clear 8 = .ok (.iload_n 2, 1) := by decide +kernel
theorem dX9_clear_9 : decode cX9_clear 9 = .ok (.invokestatic 76, 3) := by decide +kernel
theorem dX9_clear_12 : decode cX9_clear 12 = .ok (.ifCond .eq 10, 3) := by decide +kernel
theorem dX9_clear_15 : decode cX9_clear 15 = .ok (.iload_n 3, 1) := by decide +kernel
theorem dX9_clear_16 : decode cX9_clear 16 = .ok (.invokestatic 113, 3) := by decide +kernel
theorem dX9_clear_19 : decode cX9_clear 19 = .ok (.ifCond .ne 5, 3) := by decide +kernel
theorem dX9_clear_22 : decode cX9_clear 22 = .ok (.iconst (-1), 1) := by decide +kernel
theorem dX9_clear_23 : decode cX9_clear 23 = .ok (.ireturn, 1) := by decide +kernel
theorem dX9_clear_24 : decode cX9_clear 24 = .ok (.aload_n 0, 1) := by decide +kernel
theorem dX9_clear_25 : decode cX9_clear 25 = .ok (.iload_n 1, 1) := by decide +kernel
theorem dX9_clear_26 : decode cX9_clear 26 = .ok (.invokevirtual 82, 3) := by decide +kernel
theorem dX9_clear_29 : decode cX9_clear 29 = .ok (.ifCond .eq 6, 3) := by decide +kernel
theorem dX9_clear_32 : decode cX9_clear 32 = .ok (.bipush (-2), 2) := by decide +kernel
theorem dX9_clear_34 : decode cX9_clear 34 = .ok (.ireturn, 1) := by decide +kernel
theorem dX9_clear_35 : decode cX9_clear 35 = .ok (.aload_n 0, 1) := by decide +kernel
theorem dX9_clear_36 : decode cX9_clear 36 = .ok (.getfield 91, 3) := by decide +kernel
theorem dX9_clear_39 : decode cX9_clear 39 = .ok (.bipush 70, 2) := by decide +kernel
theorem dX9_clear_41 : decode cX9_clear 41 = .ok (.if_icmp .ne 6, 3) := by decide +kernel
theorem dX9_clear_44 : decode cX9_clear 44 = .ok (.bipush (-3), 2) := by decide +kernel
theorem dX9_clear_46 : decode cX9_clear 46 = .ok (.ireturn, 1) := by decide +kernel
theorem dX9_clear_47 : decode cX9_clear 47 = .ok (.aload_n 0, 1) := by decide +kernel
theorem dX9_clear_48 : decode cX9_clear 48 = .ok (.iload_n 1, 1) := by decide +kernel
theorem dX9_clear_49 : decode cX9_clear 49 = .ok (.iload_n 2, 1) := by decide +kernel
theorem dX9_clear_50 : decode cX9_clear 50 = .ok (.iload_n 3, 1) := by decide +kernel
theorem dX9_clear_51 : decode cX9_clear 51 = .ok (.aload_n 0, 1) := by decide +kernel
theorem dX9_clear_52 : decode cX9_clear 52 = .ok (.getfield 32, 3) := by decide +kernel
theorem dX9_clear_55 : decode cX9_clear 55 = .ok (.invokevirtual 103, 3) := by decide +kernel
theorem dX9_clear_58 : decode cX9_clear 58 = .ok (.istore 4, 2) := by decide +kernel
theorem dX9_clear_60 : decode cX9_clear 60 = .ok (.iload 4, 2) := by decide +kernel
theorem dX9_clear_62 : decode cX9_clear 62 = .ok (.ifCond .ge 6, 3) := by decide +kernel
theorem dX9_clear_65 : decode cX9_clear 65 = .ok (.bipush (-4), 2) := by decide +kernel
theorem dX9_clear_67 : decode cX9_clear 67 = .ok (.ireturn, 1) := by decide +kernel
theorem dX9_clear_68 : decode cX9_clear 68 = .ok (.aload_n 0, 1) := by decide +kernel
theorem dX9_clear_69 : decode cX9_clear 69 = .ok (.iload_n 1, 1) := by decide +kernel
theorem dX9_clear_70 : decode cX9_clear 70 = .ok (.iload_n 2, 1) := by decide +kernel
theorem dX9_clear_71 : decode cX9_clear 71 = .ok (.iload_n 3, 1) := by decide +kernel
theorem dX9_clear_72 : decode cX9_clear 72 = .ok (.iconst (-1), 1) := by decide +kernel
theorem dX9_clear_73 : decode cX9_clear 73 = .ok (.invokevirtual 119, 3) := by decide +kernel
theorem dX9_clear_76 : decode cX9_clear 76 = .ok (.iload 4, 2) := by decide +kernel
theorem dX9_clear_78 : decode cX9_clear 78 = .ok (.ireturn, 1) := by decide +kernel
theorem dX9_record_0 : decode cX9_record 0 = .ok (.aload_n 0, 1) := by decide +kernel
theorem dX9_record_1 : decode cX9_record 1 = .ok (.iload_n 1, 1) := by decide +kernel
theorem dX9_record_2 : decode cX9_record 2 = .ok (.invokevirtual 85, 3) := by decide +kernel
theorem dX9_record_5 : decode cX9_record 5 = .ok (.ifCond .eq 26, 3) := by decide +kernel
theorem dX9_record_8 : decode cX9_record 8 = .ok (.iload_n 2, 1) := by decide +kernel
theorem dX9_record_9 : decode cX9_record 9 = .ok (.invokestatic 76, 3) := by decide +kernel
theorem dX9_record_12 : decode cX9_record 12 = .ok (.ifCond .eq 19, 3) := by decide +kernel
theorem dX9_record_15 : decode cX9_record 15 = .ok (.iload_n 3, 1) := by decide +kernel
theorem dX9_record_16 : decode cX9_record 16 = .ok (.invokestatic 113, 3) := by decide +kernel
theorem dX9_record_19 : decode cX9_record 19 = .ok (.ifCond .eq 12, 3) := by decide +kernel
theorem dX9_record_22 : decode cX9_record 22 = .ok (.aload_n 0, 1) := by decide +kernel
theorem dX9_record_23 : decode cX9_record 23 = .ok (.iload 4, 2) := by decide +kernel
theorem dX9_record_25 : decode cX9_record 25 = .ok (.invokevirtual 64, 3) := by decide +kernel
theorem dX9_record_28 : decode cX9_record 28 = .ok (.ifCond .ne 5, 3) := by decide +kernel
theorem dX9_record_31 : decode cX9_record 31 = .ok (.iconst (-1), 1) := by decide +kernel
theorem dX9_record_32 : decode cX9_record 32 = .ok (.ireturn, 1) := by decide +kernel
theorem dX9_record_33 : decode cX9_record 33 = .ok (.aload_n 0, 1) := by decide +kernel
theorem dX9_record_34 : decode cX9_record 34 = .ok (.iload_n 1, 1) := by decide +kernel
theorem dX9_record_35 : decode cX9_record 35 = .ok (.iload 4, 2) := by decide +kernel
theorem dX9_record_37 : decode cX9_record 37 = .ok (.invokevirtual 123, 3) := by decide +kernel
theorem dX9_record_40 : decode cX9_record 40 = .ok (.ifCond .ne 6, 3) := by decide +kernel
theorem dX9_record_43 : decode cX9_record 43 = .ok (.bipush (-2), 2) := by decide +kernel
theorem dX9_record_45 : decode cX9_record 45 = .ok (.ireturn, 1) := by decide +kernel
theorem dX9_record_46 : decode cX9_record 46 = .ok (.aload_n 0, 1) := by decide +kernel
theorem dX9_record_47 : decode cX9_record 47 = .ok (.iload_n 1, 1) := by decide +kernel
theorem dX9_record_48 : decode cX9_record 48 = .ok (.iload_n 2, 1) := by decide +kernel
theorem dX9_record_49 : decode cX9_record 49 = .ok (.iload_n 3, 1) := by decide +kernel
theorem dX9_record_50 : decode cX9_record 50 = .ok (.iload 4, 2) := by decide +kernel
theorem dX9_record_52 : decode cX9_record 52 = .ok (.invokevirtual 103, 3) := by decide +kernel
theorem dX9_record_55 : decode cX9_record 55 = .ok (.istore 5, 2) := by decide +kernel
theorem dX9_record_57 : decode cX9_record 57 = .ok (.iload 5, 2) := by decide +kernel
theorem dX9_record_59 : decode cX9_record 59 = .ok (.ifCond .ge 8, 3) := by decide +kernel
theorem dX9_record_62 : decode cX9_record 62 = .ok (.bipush (-4), 2) := by decide +kernel
theorem dX9_record_64 : decode cX9_record 64 = .ok (.goto 5, 3) := by decide +kernel
theorem dX9_record_67 : decode cX9_record 67 = .ok (.iload 5, 2) := by decide +kernel
theorem dX9_record_69 : decode cX9_record 69 = .ok (.ireturn, 1) := by decide +kernel
theorem dX9_serial_0 : decode cX9_serial 0 = .ok (.aload_n 0, 1) := by decide +kernel
theorem dX9_serial_1 : decode cX9_serial 1 = .ok (.iload_n 1, 1) := by decide +kernel
theorem dX9_serial_2 : decode cX9_serial 2 = .ok (.invokevirtual 85, 3) := by decide +kernel
theorem dX9_serial_5 : decode cX9_serial 5 = .ok (.ifCond .eq 11, 3) := by decide +kernel
theorem dX9_serial_8 : decode cX9_serial 8 = .ok (.aload_n 0, 1) := by decide +kernel
theorem dX9_serial_9 : decode cX9_serial 9 = .ok (.iload_n 2, 1) := by decide +kernel
theorem dX9_serial_10 : decode cX9_serial 10 = .ok (.invokevirtual 64, 3) := by decide +kernel
theorem dX9_serial_13 : decode cX9_serial 13 = .ok (.ifCond .ne 5, 3) := by decide +kernel
theorem dX9_serial_16 : decode cX9_serial 16 = .ok (.iconst (-1), 1) := by decide +kernel
theorem dX9_serial_17 : decode cX9_serial 17 = .ok (.ireturn, 1) := by decide +kernel
theorem dX9_serial_18 : decode cX9_serial 18 = .ok (.iconst 0, 1) := by decide +kernel
theorem dX9_serial_19 : decode cX9_serial 19 = .ok (.istore_n 3, 1) := by decide +kernel
theorem dX9_serial_20 : decode cX9_serial 20 = .ok (.iconst 0, 1) := by decide +kernel
theorem dX9_serial_21 : decode cX9_serial 21 = .ok (.istore 4, 2) := by decide +kernel
theorem dX9_serial_23 : decode cX9_serial 23 = .ok (.iload 4, 2) := by decide +kernel
theorem dX9_serial_25 : decode cX9_serial 25 = .ok (.aload_n 0, 1) := by decide +kernel
theorem dX9_serial_26 : decode cX9_serial 26 = .ok (.getfield 91, 3) := by decide +kernel
theorem dX9_serial_29 : decode cX9_serial 29 = .ok (.if_icmp .ge 39, 3) := by decide +kernel
theorem dX9_serial_32 : decode cX9_serial 32 = .ok (.iload_n 3, 1) := by decide +kernel
theorem dX9_serial_33 : decode cX9_serial 33 = .ok (.aload_n 0, 1) := by decide +kernel
theorem dX9_serial_34 : decode cX9_serial 34 = .ok (.iload 4, 2) := by decide +kernel
theorem dX9_serial_36 : decode cX9_serial 36 = .ok (.iconst 0, 1) := by decide +kernel
theorem dX9_serial_37 : decode cX9_serial 37 = .ok (.invokevirtual 100, 3) := by decide +kernel
theorem dX9_serial_40 : decode cX9_serial 40 = .ok (.iload_n 1, 1) := by decide +kernel
theorem dX9_serial_41 : decode cX9_serial 41 = .ok (.if_icmp .ne 18, 3) := by decide +kernel
theorem dX9_serial_44 : decode cX9_serial 44 = .ok (.aload_n 0, 1) := by decide +kernel
theorem dX9_serial_45 : decode cX9_serial 45 = .ok (.iload 4, 2) := by decide +kernel
theorem dX9_serial_47 : decode cX9_serial 47 = .ok (.iconst 1, 1) := by decide +kernel
theorem dX9_serial_48 : decode cX9_serial 48 = .ok (.invokevirtual 100, 3) := by decide +kernel
theorem dX9_serial_51 : decode cX9_serial 51 = .ok (.iload_n 2, 1) := by decide +kernel
theorem dX9_serial_52 : decode cX9_serial 52 = .ok (.if_icmp .gt 7, 3) := by decide +kernel
theorem dX9_serial_55 : decode cX9_serial 55 = .ok (.iconst 1, 1) := by decide +kernel
theorem dX9_serial_56 : decode cX9_serial 56 = .ok (.goto 4, 3) := by decide +kernel
theorem dX9_serial_59 : decode cX9_serial 59 = .ok (.iconst 0, 1) := by decide +kernel
theorem dX9_serial_60 : decode cX9_serial 60 = .ok (.iadd, 1) := by decide +kernel
theorem dX9_serial_61 : decode cX9_serial 61 = .ok (.istore_n 3, 1) := by decide +kernel
theorem dX9_serial_62 : decode cX9_serial 62 = .ok (.iinc 4 1, 3) := by decide +kernel
theorem dX9_serial_65 : decode cX9_serial 65 = .ok (.goto (-42), 3) := by decide +kernel
theorem dX9_serial_68 : decode cX9_serial 68 = .ok (.iload_n 3, 1) := by decide +kernel
theorem dX9_serial_69 : decode cX9_serial 69 = .ok (.ireturn, 1) := by decide +kernel
theorem dX9_change_0 : decode cX9_change 0 = .ok (.aload_n 0, 1) := by decide +kernel
theorem dX9_change_1 : decode cX9_change 1 = .ok (.iload_n 1, 1) := by decide +kernel
theorem dX9_change_2 : decode cX9_change 2 = .ok (.invokevirtual 85, 3) := by decide +kernel
theorem dX9_change_5 : decode cX9_change 5 = .ok (.ifCond .eq 16, 3) := by decide +kernel
theorem dX9_change_8 : decode cX9_change 8 = .ok (.iload_n 2, 1) := by decide +kernel
theorem dX9_change_9 : decode cX9_change 9 = .ok (.ifCond .lt 12, 3) := by decide +kernel
theorem dX9_change_12 : decode cX9_change 12 = .ok (.iload_n 3, 1) := by decide +kernel
theorem dX9_change_13 : decode cX9_change 13 = .ok (.iconst 0, 1) := by decide +kernel
theorem dX9_change_14 : decode cX9_change 14 = .ok (.iconst 3, 1) := by decide +kernel
theorem dX9_change_15 : decode cX9_change 15 = .ok (.invokestatic 35, 3) := by decide +kernel
theorem dX9_change_18 : decode cX9_change 18 = .ok (.ifCond .ne 5, 3) := by decide +kernel
theorem dX9_change_21 : decode cX9_change 21 = .ok (.iconst (-1), 1) := by decide +kernel
theorem dX9_change_22 : decode cX9_change 22 = .ok (.ireturn, 1) := by decide +kernel
theorem dX9_change_23 : decode cX9_change 23 = .ok (.iload_n 2, 1) := by decide +kernel
theorem dX9_change_24 : decode cX9_change 24 = .ok (.istore 4, 2) := by decide +kernel
theorem dX9_change_26 : decode cX9_change 26 = .ok (.iconst 0, 1) := by decide +kernel
theorem dX9_change_27 : decode cX9_change 27 = .ok (.istore 5, 2) := by decide +kernel
theorem dX9_change_29 : decode cX9_change 29 = .ok (.iload 5, 2) := by decide +kernel
theorem dX9_change_31 : decode cX9_change 31 = .ok (.aload_n 0, 1) := by decide +kernel
theorem dX9_change_32 : decode cX9_change 32 = .ok (.getfield 91, 3) := by decide +kernel
theorem dX9_change_35 : decode cX9_change 35 = .ok (.if_icmp .ge 38, 3) := by decide +kernel
theorem dX9_change_38 : decode cX9_change 38 = .ok (.aload_n 0, 1) := by decide +kernel
theorem dX9_change_39 : decode cX9_change 39 = .ok (.iload 5, 2) := by decide +kernel
theorem dX9_change_41 : decode cX9_change 41 = .ok (.iconst 0, 1) := by decide +kernel
theorem dX9_change_42 : decode cX9_change 42 = .ok (.invokevirtual 100, 3) := by decide +kernel
theorem dX9_change_45 : decode cX9_change 45 = .ok (.iload_n 1, 1) := by decide +kernel
theorem dX9_change_46 : decode cX9_change 46 = .ok (.if_icmp .ne 21, 3) := by decide +kernel
theorem dX9_change_49 : decode cX9_change 49 = .ok (.iload 4, 2) := by decide +kernel
theorem dX9_change_51 : decode cX9_change 51 = .ok (.ifCond .ne 13, 3) := by decide +kernel
theorem dX9_change_54 : decode cX9_change 54 = .ok (.aload_n 0, 1) := by decide +kernel
theorem dX9_change_55 : decode cX9_change 55 = .ok (.iload 5, 2) := by decide +kernel
theorem dX9_change_57 : decode cX9_change 57 = .ok (.iconst 1, 1) := by decide +kernel
theorem dX9_change_58 : decode cX9_change 58 = .ok (.iload_n 3, 1) := by decide +kernel
theorem dX9_change_59 : decode cX9_change 59 = .ok (.iadd, 1) := by decide +kernel
theorem dX9_change_60 : decode cX9_change 60 = .ok (.invokevirtual 100, 3) := by decide +kernel
theorem dX9_change_63 : decode cX9_change 63 = .ok (.ireturn, 1) := by decide +kernel
theorem dX9_change_64 : decode cX9_change 64 = .ok (.iinc 4 (-1), 3) := by decide +kernel
theorem dX9_change_67 : decode cX9_change 67 = .ok (.iinc 5 1, 3) := by decide +kernel
theorem dX9_change_70 : decode cX9_change 70 = .ok (.goto (-41), 3) := by decide +kernel
theorem dX9_change_73 : decode cX9_change 73 = .ok (.bipush (-4), 2) := by decide +kernel
theorem dX9_change_75 : decode cX9_change 75 = .ok (.ireturn, 1) := by decide +kernel
theorem dX9_responsible_0 : decode cX9_responsible 0 = .ok (.bipush (-4), 2) := by decide +kernel
theorem dX9_responsible_2 : decode cX9_responsible 2 = .ok (.istore 4, 2) := by decide +kernel
theorem dX9_responsible_4 : decode cX9_responsible 4 = .ok (.iconst 0, 1) := by decide +kernel
theorem dX9_responsible_5 : decode cX9_responsible 5 = .ok (.istore 5, 2) := by decide +kernel
theorem dX9_responsible_7 : decode cX9_responsible 7 = .ok (.iconst 0, 1) := by decide +kernel
theorem dX9_responsible_8 : decode cX9_responsible 8 = .ok (.istore 6, 2) := by decide +kernel
theorem dX9_responsible_10 : decode cX9_responsible 10 = .ok (.iload 6, 2) := by decide +kernel
theorem dX9_responsible_12 : decode cX9_responsible 12 = .ok (.aload_n 0, 1) := by decide +kernel
theorem dX9_responsible_13 : decode cX9_responsible 13 = .ok (.getfield 70, 3) := by decide +kernel
theorem dX9_responsible_16 : decode cX9_responsible 16 = .ok (.if_icmp .ge 116, 3) := by decide +kernel
theorem dX9_responsible_19 : decode cX9_responsible 19 = .ok (.aload_n 0, 1) := by decide +kernel
theorem dX9_responsible_20 : decode cX9_responsible 20 = .ok (.getfield 13, 3) := by decide +kernel
theorem dX9_responsible_23 : decode cX9_responsible 23 = .ok (.iconst 4, 1) := by decide +kernel
theorem dX9_responsible_24 : decode cX9_responsible 24 = .ok (.iload 6, 2) := by decide +kernel
theorem dX9_responsible_26 : decode cX9_responsible 26 = .ok (.imul, 1) := by decide +kernel
theorem dX9_responsible_27 : decode cX9_responsible 27 = .ok (.iaload, 1) := by decide +kernel
theorem dX9_responsible_28 : decode cX9_responsible 28 = .ok (.istore 7, 2) := by decide +kernel
theorem dX9_responsible_30 : decode cX9_responsible 30 = .ok (.aload_n 0, 1) := by decide +kernel
theorem dX9_responsible_31 : decode cX9_responsible 31 = .ok (.getfield 13, 3) := by decide +kernel
theorem dX9_responsible_34 : decode cX9_responsible 34 = .ok (.iconst 4, 1) := by decide +kernel
theorem dX9_responsible_35 : decode cX9_responsible 35 = .ok (.iload 6, 2) := by decide +kernel
theorem dX9_responsible_37 : decode cX9_responsible 37 = .ok (.imul, 1) := by decide +kernel
theorem dX9_responsible_38 : decode cX9_responsible 38 = .ok (.iconst 1, 1) := by decide +kernel
theorem dX9_responsible_39 : decode cX9_responsible 39 = .ok (.iadd, 1) := by decide +kernel
theorem dX9_responsible_40 : decode cX9_responsible 40 = .ok (.iaload, 1) := by decide +kernel
theorem dX9_responsible_41 : decode cX9_responsible 41 = .ok (.istore 8, 2) := by decide +kernel
theorem dX9_responsible_43 : decode cX9_responsible 43 = .ok (.iload 7, 2) := by decide +kernel
theorem dX9_responsible_45 : decode cX9_responsible 45 = .ok (.iload_n 1, 1) := by decide +kernel
theorem dX9_responsible_46 : decode cX9_responsible 46 = .ok (.if_icmp .eq 8, 3) := by decide +kernel
theorem dX9_responsible_49 : decode cX9_responsible 49 = .ok (.iload 7, 2) := by decide +kernel
theorem dX9_responsible_51 : decode cX9_responsible 51 = .ok (.ifCond .ne 75, 3) := by decide +kernel
theorem dX9_responsible_54 : decode cX9_responsible 54 = .ok (.aload_n 0, 1) := by decide +kernel
theorem dX9_responsible_55 : decode cX9_responsible 55 = .ok (.iload 6, 2) := by decide +kernel
theorem dX9_responsible_57 : decode cX9_responsible 57 = .ok (.iload_n 3, 1) := by decide +kernel
theorem dX9_responsible_58 : decode cX9_responsible 58 = .ok (.invokevirtual 123, 3) := by decide +kernel
theorem dX9_responsible_61 : decode cX9_responsible 61 = .ok (.ifCond .eq 65, 3) := by decide +kernel
theorem dX9_responsible_64 : decode cX9_responsible 64 = .ok (.iload_n 2, 1) := by decide +kernel
theorem dX9_responsible_65 : decode cX9_responsible 65 = .ok (.iload 8, 2) := by decide +kernel
theorem dX9_responsible_67 : decode cX9_responsible 67 = .ok (.invokestatic 50, 3) := by decide +kernel
theorem dX9_responsible_70 : decode cX9_responsible 70 = .ok (.ifCond .eq 56, 3) := by decide +kernel
theorem dX9_responsible_73 : decode cX9_responsible 73 = .ok (.iconst 2, 1) := by decide +kernel
theorem dX9_responsible_74 : decode cX9_responsible 74 = .ok (.iload 8, 2) := by decide +kernel
theorem dX9_responsible_76 : decode cX9_responsible 76 = .ok (.invokestatic 43, 3) := by decide +kernel
theorem dX9_responsible_79 : decode cX9_responsible 79 = .ok (.imul, 1) := by decide +kernel
theorem dX9_responsible_80 : decode cX9_responsible 80 = .ok (.iload 7, 2) := by decide +kernel
theorem dX9_responsible_82 : decode cX9_responsible 82 = .ok (.iload_n 1, 1) := by decide +kernel
theorem dX9_responsible_83 : decode cX9_responsible 83 = .ok (.if_icmp .ne 7, 3) := by decide +kernel
theorem dX9_responsible_86 : decode cX9_responsible 86 = .ok (.iconst 1, 1) := by decide +kernel
theorem dX9_responsible_87 : decode cX9_responsible 87 = .ok (.goto 4, 3) := by decide +kernel
theorem dX9_responsible_90 : decode cX9_responsible 90 = .ok (.iconst 0, 1) := by decide +kernel
theorem dX9_responsible_91 : decode cX9_responsible 91 = .ok (.iadd, 1) := by decide +kernel
theorem dX9_responsible_92 : decode cX9_responsible 92 = .ok (.istore 9, 2) := by decide +kernel
theorem dX9_responsible_94 : decode cX9_responsible 94 = .ok (.iload 9, 2) := by decide +kernel
theorem dX9_responsible_96 : decode cX9_responsible 96 = .ok (.iload 5, 2) := by decide +kernel
theorem dX9_responsible_98 : decode cX9_responsible 98 = .ok (.if_icmp .le 8, 3) := by decide +kernel
theorem dX9_responsible_101 : decode cX9_responsible 101 = .ok (.iload 6, 2) := by decide +kernel
theorem dX9_responsible_103 : decode cX9_responsible 103 = .ok (.goto 5, 3) := by decide +kernel
theorem dX9_responsible_106 : decode cX9_responsible 106 = .ok (.iload 4, 2) := by decide +kernel
theorem dX9_responsible_108 : decode cX9_responsible 108 = .ok (.istore 4, 2) := by decide +kernel
theorem dX9_responsible_110 : decode cX9_responsible 110 = .ok (.iload 9, 2) := by decide +kernel
theorem dX9_responsible_112 : decode cX9_responsible 112 = .ok (.iload 5, 2) := by decide +kernel
theorem dX9_responsible_114 : decode cX9_responsible 114 = .ok (.if_icmp .le 8, 3) := by decide +kernel
theorem dX9_responsible_117 : decode cX9_responsible 117 = .ok (.iload 9, 2) := by decide +kernel
theorem dX9_responsible_119 : decode cX9_responsible 119 = .ok (.goto 5, 3) := by decide +kernel
theorem dX9_responsible_122 : decode cX9_responsible 122 = .ok (.iload 5, 2) := by decide +kernel
theorem dX9_responsible_124 : decode cX9_responsible 124 = .ok (.istore 5, 2) := by decide +kernel
theorem dX9_responsible_126 : decode cX9_responsible 126 = .ok (.iinc 6 1, 3) := by decide +kernel
theorem dX9_responsible_129 : decode cX9_responsible 129 = .ok (.goto (-119), 3) := by decide +kernel
theorem dX9_responsible_132 : decode cX9_responsible 132 = .ok (.iload 4, 2) := by decide +kernel
theorem dX9_responsible_134 : decode cX9_responsible 134 = .ok (.ireturn, 1) := by decide +kernel
theorem dX9_finds_0 : decode cX9_finds 0 = .ok (.iload_n 2, 1) := by decide +kernel
theorem dX9_finds_1 : decode cX9_finds 1 = .ok (.istore 5, 2) := by decide +kernel
theorem dX9_finds_3 : decode cX9_finds 3 = .ok (.iconst 0, 1) := by decide +kernel
theorem dX9_finds_4 : decode cX9_finds 4 = .ok (.istore 6, 2) := by decide +kernel
theorem dX9_finds_6 : decode cX9_finds 6 = .ok (.iload 6, 2) := by decide +kernel
theorem dX9_finds_8 : decode cX9_finds 8 = .ok (.iconst 5, 1) := by decide +kernel
theorem dX9_finds_9 : decode cX9_finds 9 = .ok (.if_icmp .ge 149, 3) := by decide +kernel
theorem dX9_finds_12 : decode cX9_finds 12 = .ok (.aload_n 0, 1) := by decide +kernel
theorem dX9_finds_13 : decode cX9_finds 13 = .ok (.iload_n 1, 1) := by decide +kernel
theorem dX9_finds_14 : decode cX9_finds 14 = .ok (.iload 5, 2) := by decide +kernel
theorem dX9_finds_16 : decode cX9_finds 16 = .ok (.iload 4, 2) := by decide +kernel
theorem dX9_finds_18 : decode cX9_finds 18 = .ok (.invokevirtual 126, 3) := by decide +kernel
theorem dX9_finds_21 : decode cX9_finds 21 = .ok (.istore 7, 2) := by decide +kernel
theorem dX9_finds_23 : decode cX9_finds 23 = .ok (.iload 7, 2) := by decide +kernel
theorem dX9_finds_25 : decode cX9_finds 25 = .ok (.ifCond .ge 6, 3) := by decide +kernel
theorem dX9_finds_28 : decode cX9_finds 28 = .ok (.bipush (-11), 2) := by decide +kernel
theorem dX9_finds_30 : decode cX9_finds 30 = .ok (.ireturn, 1) := by decide +kernel
theorem dX9_finds_31 : decode cX9_finds 31 = .ok (.aload_n 0, 1) := by decide +kernel
theorem dX9_finds_32 : decode cX9_finds 32 = .ok (.iload 5, 2) := by decide +kernel
theorem dX9_finds_34 : decode cX9_finds 34 = .ok (.putfield 130, 3) := by decide +kernel
theorem dX9_finds_37 : decode cX9_finds 37 = .ok (.aload_n 0, 1) := by decide +kernel
theorem dX9_finds_38 : decode cX9_finds 38 = .ok (.iload 7, 2) := by decide +kernel
theorem dX9_finds_40 : decode cX9_finds 40 = .ok (.iload 5, 2) := by decide +kernel
theorem dX9_finds_42 : decode cX9_finds 42 = .ok (.iload 4, 2) := by decide +kernel
theorem dX9_finds_44 : decode cX9_finds 44 = .ok (.invokevirtual 133, 3) := by decide +kernel
theorem dX9_finds_47 : decode cX9_finds 47 = .ok (.ifCond .ne 59, 3) := by decide +kernel
theorem dX9_finds_50 : decode cX9_finds 50 = .ok (.aload_n 0, 1) := by decide +kernel
theorem dX9_finds_51 : decode cX9_finds 51 = .ok (.iload 5, 2) := by decide +kernel
theorem dX9_finds_53 : decode cX9_finds 53 = .ok (.invokestatic 136, 3) := by decide +kernel
theorem dX9_finds_56 : decode cX9_finds 56 = .ok (.putfield 130, 3) := by decide +kernel
theorem dX9_finds_59 : decode cX9_finds 59 = .ok (.iload 5, 2) := by decide +kernel
theorem dX9_finds_61 : decode cX9_finds 61 = .ok (.invokestatic 79, 3) := by decide +kernel
theorem dX9_finds_64 : decode cX9_finds 64 = .ok (.ifCond .ne 39, 3) := by decide +kernel
theorem dX9_finds_67 : decode cX9_finds 67 = .ok (.aload_n 0, 1) := by decide +kernel
theorem dX9_finds_68 : decode cX9_finds 68 = .ok (.getfield 130, 3) := by decide +kernel
theorem dX9_finds_71 : decode cX9_finds 71 = .ok (.aload_n 0, 1) := by decide +kernel
theorem dX9_finds_72 : decode cX9_finds 72 = .ok (.getfield 13, 3) := by decide +kernel
theorem dX9_finds_75 : decode cX9_finds 75 = .ok (.iconst 4, 1) := by decide +kernel
theorem dX9_finds_76 : decode cX9_finds 76 = .ok (.iload 7, 2) := by decide +kernel
theorem dX9_finds_78 : decode cX9_finds 78 = .ok (.imul, 1) := by decide +kernel
theorem dX9_finds_79 : decode cX9_finds 79 = .ok (.iconst 1, 1) := by decide +kernel
theorem dX9_finds_80 : decode cX9_finds 80 = .ok (.iadd, 1) := by decide +kernel
theorem dX9_finds_81 : decode cX9_finds 81 = .ok (.iaload, 1) := by decide +kernel
theorem dX9_finds_82 : decode cX9_finds 82 = .ok (.invokestatic 110, 3) := by decide +kernel
theorem dX9_finds_85 : decode cX9_finds 85 = .ok (.ifCond .eq 18, 3) := by decide +kernel
theorem dX9_finds_88 : decode cX9_finds 88 = .ok (.aload_n 0, 1) := by decide +kernel
theorem dX9_finds_89 : decode cX9_finds 89 = .ok (.iload 7, 2) := by decide +kernel
theorem dX9_finds_91 : decode cX9_finds 91 = .ok (.aload_n 0, 1) := by decide +kernel
theorem dX9_finds_92 : decode cX9_finds 92 = .ok (.getfield 130, 3) := by decide +kernel
theorem dX9_finds_95 : decode cX9_finds 95 = .ok (.iload 4, 2) := by decide +kernel
theorem dX9_finds_97 : decode cX9_finds 97 = .ok (.invokevirtual 133, 3) := by decide +kernel
theorem dX9_finds_100 : decode cX9_finds 100 = .ok (.ifCond .ne 6, 3) := by decide +kernel
theorem dX9_finds_103 : decode cX9_finds 103 = .ok (.bipush (-12), 2) := by decide +kernel
theorem dX9_finds_105 : decode cX9_finds 105 = .ok (.ireturn, 1) := by decide +kernel
theorem dX9_finds_106 : decode cX9_finds 106 = .ok (.aload_n 0, 1) := by decide +kernel
theorem dX9_finds_107 : decode cX9_finds 107 = .ok (.iload 7, 2) := by decide +kernel
theorem dX9_finds_109 : decode cX9_finds 109 = .ok (.aload_n 0, 1) := by decide +kernel
theorem dX9_finds_110 : decode cX9_finds 110 = .ok (.getfield 130, 3) := by decide +kernel
theorem dX9_finds_113 : decode cX9_finds 113 = .ok (.iload_n 3, 1) := by decide +kernel
theorem dX9_finds_114 : decode cX9_finds 114 = .ok (.iload 4, 2) := by decide +kernel
theorem dX9_finds_116 : decode cX9_finds 116 = .ok (.invokevirtual 103, 3) := by decide +kernel
theorem dX9_finds_119 : decode cX9_finds 119 = .ok (.istore 8, 2) := by decide +kernel
theorem dX9_finds_121 : decode cX9_finds 121 = .ok (.iload 8, 2) := by decide +kernel
theorem dX9_finds_123 : decode cX9_finds 123 = .ok (.ifCond .lt 6, 3) := by decide +kernel
theorem dX9_finds_126 : decode cX9_finds 126 = .ok (.iload 8, 2) := by decide +kernel
theorem dX9_finds_128 : decode cX9_finds 128 = .ok (.ireturn, 1) := by decide +kernel
theorem dX9_finds_129 : decode cX9_finds 129 = .ok (.aload_n 0, 1) := by decide +kernel
theorem dX9_finds_130 : decode cX9_finds 130 = .ok (.iload 7, 2) := by decide +kernel
theorem dX9_finds_132 : decode cX9_finds 132 = .ok (.aload_n 0, 1) := by decide +kernel
theorem dX9_finds_133 : decode cX9_finds 133 = .ok (.getfield 130, 3) := by decide +kernel
theorem dX9_finds_136 : decode cX9_finds 136 = .ok (.iconst 1, 1) := by decide +kernel
theorem dX9_finds_137 : decode cX9_finds 137 = .ok (.iload 4, 2) := by decide +kernel
theorem dX9_finds_139 : decode cX9_finds 139 = .ok (.invokevirtual 103, 3) := by decide +kernel
theorem dX9_finds_142 : decode cX9_finds 142 = .ok (.istore 5, 2) := by decide +kernel
theorem dX9_finds_144 : decode cX9_finds 144 = .ok (.iload 5, 2) := by decide +kernel
theorem dX9_finds_146 : decode cX9_finds 146 = .ok (.ifCond .ge 6, 3) := by decide +kernel
theorem dX9_finds_149 : decode cX9_finds 149 = .ok (.bipush (-13), 2) := by decide +kernel
theorem dX9_finds_151 : decode cX9_finds 151 = .ok (.ireturn, 1) := by decide +kernel
theorem dX9_finds_152 : decode cX9_finds 152 = .ok (.iinc 6 1, 3) := by decide +kernel
theorem dX9_finds_155 : decode cX9_finds 155 = .ok (.goto (-149), 3) := by decide +kernel
theorem dX9_finds_158 : decode cX9_finds 158 = .ok (.bipush (-14), 2) := by decide +kernel
theorem dX9_finds_160 : decode cX9_finds 160 = .ok (.ireturn, 1) := by decide +kernel
theorem dX9_isQuestion_0 : decode cX9_isQuestion 0 = .ok (.iload_n 1, 1) := by decide +kernel
theorem dX9_isQuestion_1 : decode cX9_isQuestion 1 = .ok (.invokestatic 73, 3) := by decide +kernel
theorem dX9_isQuestion_4 : decode cX9_isQuestion 4 = .ok (.ifCond .eq 21, 3) := by decide +kernel
theorem dX9_isQuestion_7 : decode cX9_isQuestion 7 = .ok (.iload_n 2, 1) := by decide +kernel
theorem dX9_isQuestion_8 : decode cX9_isQuestion 8 = .ok (.invokestatic 76, 3) := by decide +kernel
theorem dX9_isQuestion_11 : decode cX9_isQuestion 11 = .ok (.ifCond .eq 14, 3) := by decide +kernel
theorem dX9_isQuestion_14 : decode cX9_isQuestion 14 = .ok (.iload_n 3, 1) := by decide +kernel
theorem dX9_isQuestion_15 : decode cX9_isQuestion 15 = .ok (.invokestatic 113, 3) := by decide +kernel
theorem dX9_isQuestion_18 : decode cX9_isQuestion 18 = .ok (.ifCond .eq 7, 3) := by decide +kernel
theorem dX9_isQuestion_21 : decode cX9_isQuestion 21 = .ok (.iconst 1, 1) := by decide +kernel
theorem dX9_isQuestion_22 : decode cX9_isQuestion 22 = .ok (.goto 4, 3) := by decide +kernel
theorem dX9_isQuestion_25 : decode cX9_isQuestion 25 = .ok (.iconst 0, 1) := by decide +kernel
theorem dX9_isQuestion_26 : decode cX9_isQuestion 26 = .ok (.ireturn, 1) := by decide +kernel
theorem dX9_answer_0 : decode cX9_answer 0 = .ok (.iload_n 1, 1) := by decide +kernel
theorem dX9_answer_1 : decode cX9_answer 1 = .ok (.invokestatic 54, 3) := by decide +kernel
theorem dX9_answer_4 : decode cX9_answer 4 = .ok (.ifCond .eq 22, 3) := by decide +kernel
theorem dX9_answer_7 : decode cX9_answer 7 = .ok (.aload_n 0, 1) := by decide +kernel
theorem dX9_answer_8 : decode cX9_answer 8 = .ok (.iconst 0, 1) := by decide +kernel
theorem dX9_answer_9 : decode cX9_answer 9 = .ok (.iload_n 2, 1) := by decide +kernel
theorem dX9_answer_10 : decode cX9_answer 10 = .ok (.iload_n 3, 1) := by decide +kernel
theorem dX9_answer_11 : decode cX9_answer 11 = .ok (.invokevirtual 139, 3) := by decide +kernel
theorem dX9_answer_14 : decode cX9_answer 14 = .ok (.ifCond .eq 12, 3) := by decide +kernel
theorem dX9_answer_17 : decode cX9_answer 17 = .ok (.aload_n 0, 1) := by decide +kernel
theorem dX9_answer_18 : decode cX9_answer 18 = .ok (.iload 4, 2) := by decide +kernel
theorem dX9_answer_20 : decode cX9_answer 20 = .ok (.invokevirtual 64, 3) := by decide +kernel
theorem dX9_answer_23 : decode cX9_answer 23 = .ok (.ifCond .ne 5, 3) := by decide +kernel
theorem dX9_answer_26 : decode cX9_answer 26 = .ok (.iconst (-1), 1) := by decide +kernel
theorem dX9_answer_27 : decode cX9_answer 27 = .ok (.ireturn, 1) := by decide +kernel
theorem dX9_answer_28 : decode cX9_answer 28 = .ok (.aload_n 0, 1) := by decide +kernel
theorem dX9_answer_29 : decode cX9_answer 29 = .ok (.aload_n 0, 1) := by decide +kernel
theorem dX9_answer_30 : decode cX9_answer 30 = .ok (.iload_n 1, 1) := by decide +kernel
theorem dX9_answer_31 : decode cX9_answer 31 = .ok (.iload 4, 2) := by decide +kernel
theorem dX9_answer_33 : decode cX9_answer 33 = .ok (.invokevirtual 67, 3) := by decide +kernel
theorem dX9_answer_36 : decode cX9_answer 36 = .ok (.iload_n 2, 1) := by decide +kernel
theorem dX9_answer_37 : decode cX9_answer 37 = .ok (.iload_n 3, 1) := by decide +kernel
theorem dX9_answer_38 : decode cX9_answer 38 = .ok (.iload 4, 2) := by decide +kernel
theorem dX9_answer_40 : decode cX9_answer 40 = .ok (.invokevirtual 142, 3) := by decide +kernel
theorem dX9_answer_43 : decode cX9_answer 43 = .ok (.ireturn, 1) := by decide +kernel
theorem dX9_viewAnswer_0 : decode cX9_viewAnswer 0 = .ok (.aload_n 0, 1) := by decide +kernel
theorem dX9_viewAnswer_1 : decode cX9_viewAnswer 1 = .ok (.iload_n 1, 1) := by decide +kernel
theorem dX9_viewAnswer_2 : decode cX9_viewAnswer 2 = .ok (.iload_n 2, 1) := by decide +kernel
theorem dX9_viewAnswer_3 : decode cX9_viewAnswer 3 = .ok (.iload_n 3, 1) := by decide +kernel
theorem dX9_viewAnswer_4 : decode cX9_viewAnswer 4 = .ok (.invokevirtual 139, 3) := by decide +kernel
theorem dX9_viewAnswer_7 : decode cX9_viewAnswer 7 = .ok (.ifCond .eq 24, 3) := by decide +kernel
theorem dX9_viewAnswer_10 : decode cX9_viewAnswer 10 = .ok (.aload_n 0, 1) := by decide +kernel
theorem dX9_viewAnswer_11 : decode cX9_viewAnswer 11 = .ok (.iload 4, 2) := by decide +kernel
theorem dX9_viewAnswer_13 : decode cX9_viewAnswer 13 = .ok (.invokevirtual 64, 3) := by decide +kernel
theorem dX9_viewAnswer_16 : decode cX9_viewAnswer 16 = .ok (.ifCond .eq 15, 3) := by decide +kernel
theorem dX9_viewAnswer_19 : decode cX9_viewAnswer 19 = .ok (.aload_n 0, 1) := by decide +kernel
theorem dX9_viewAnswer_20 : decode cX9_viewAnswer 20 = .ok (.iload_n 1, 1) := by decide +kernel
theorem dX9_viewAnswer_21 : decode cX9_viewAnswer 21 = .ok (.iload_n 2, 1) := by decide +kernel
theorem dX9_viewAnswer_22 : decode cX9_viewAnswer 22 = .ok (.iload_n 3, 1) := by decide +kernel
theorem dX9_viewAnswer_23 : decode cX9_viewAnswer 23 = .ok (.iload 4, 2) := by decide +kernel
theorem dX9_viewAnswer_25 : decode cX9_viewAnswer 25 = .ok (.invokevirtual 142, 3) := by decide +kernel
theorem dX9_viewAnswer_28 : decode cX9_viewAnswer 28 = .ok (.goto 4, 3) := by decide +kernel
theorem dX9_viewAnswer_31 : decode cX9_viewAnswer 31 = .ok (.iconst (-1), 1) := by decide +kernel
theorem dX9_viewAnswer_32 : decode cX9_viewAnswer 32 = .ok (.ireturn, 1) := by decide +kernel
theorem dX9_zoneFor_0 : decode cX9_zoneFor 0 = .ok (.aload_n 0, 1) := by decide +kernel
theorem dX9_zoneFor_1 : decode cX9_zoneFor 1 = .ok (.iload_n 1, 1) := by decide +kernel
theorem dX9_zoneFor_2 : decode cX9_zoneFor 2 = .ok (.iload_n 2, 1) := by decide +kernel
theorem dX9_zoneFor_3 : decode cX9_zoneFor 3 = .ok (.iconst 0, 1) := by decide +kernel
theorem dX9_zoneFor_4 : decode cX9_zoneFor 4 = .ok (.invokevirtual 139, 3) := by decide +kernel
theorem dX9_zoneFor_7 : decode cX9_zoneFor 7 = .ok (.ifCond .eq 21, 3) := by decide +kernel
theorem dX9_zoneFor_10 : decode cX9_zoneFor 10 = .ok (.aload_n 0, 1) := by decide +kernel
theorem dX9_zoneFor_11 : decode cX9_zoneFor 11 = .ok (.iload_n 3, 1) := by decide +kernel
theorem dX9_zoneFor_12 : decode cX9_zoneFor 12 = .ok (.invokevirtual 64, 3) := by decide +kernel
theorem dX9_zoneFor_15 : decode cX9_zoneFor 15 = .ok (.ifCond .eq 13, 3) := by decide +kernel
theorem dX9_zoneFor_18 : decode cX9_zoneFor 18 = .ok (.aload_n 0, 1) := by decide +kernel
theorem dX9_zoneFor_19 : decode cX9_zoneFor 19 = .ok (.iload_n 1, 1) := by decide +kernel
theorem dX9_zoneFor_20 : decode cX9_zoneFor 20 = .ok (.iload_n 2, 1) := by decide +kernel
theorem dX9_zoneFor_21 : decode cX9_zoneFor 21 = .ok (.iload_n 3, 1) := by decide +kernel
theorem dX9_zoneFor_22 : decode cX9_zoneFor 22 = .ok (.invokevirtual 126, 3) := by decide +kernel
theorem dX9_zoneFor_25 : decode cX9_zoneFor 25 = .ok (.goto 4, 3) := by decide +kernel
theorem dX9_zoneFor_28 : decode cX9_zoneFor 28 = .ok (.iconst (-1), 1) := by decide +kernel
theorem dX9_zoneFor_29 : decode cX9_zoneFor 29 = .ok (.ireturn, 1) := by decide +kernel
theorem dX9_source_0 : decode cX9_source 0 = .ok (.aload_n 0, 1) := by decide +kernel
theorem dX9_source_1 : decode cX9_source 1 = .ok (.iload_n 1, 1) := by decide +kernel
theorem dX9_source_2 : decode cX9_source 2 = .ok (.iload_n 2, 1) := by decide +kernel
theorem dX9_source_3 : decode cX9_source 3 = .ok (.iload_n 3, 1) := by decide +kernel
theorem dX9_source_4 : decode cX9_source 4 = .ok (.invokevirtual 139, 3) := by decide +kernel
theorem dX9_source_7 : decode cX9_source 7 = .ok (.ifCond .eq 12, 3) := by decide +kernel
theorem dX9_source_10 : decode cX9_source 10 = .ok (.aload_n 0, 1) := by decide +kernel
theorem dX9_source_11 : decode cX9_source 11 = .ok (.iload 4, 2) := by decide +kernel
theorem dX9_source_13 : decode cX9_source 13 = .ok (.invokevirtual 64, 3) := by decide +kernel
theorem dX9_source_16 : decode cX9_source 16 = .ok (.ifCond .ne 5, 3) := by decide +kernel
theorem dX9_source_19 : decode cX9_source 19 = .ok (.iconst (-1), 1) := by decide +kernel
