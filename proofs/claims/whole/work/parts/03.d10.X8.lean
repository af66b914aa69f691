theorem dX8_zoneFor_15 : decode cX8_zoneFor 15 = .ok (.iload_n 3, 1) := by decide +kernel
theorem dX8_zoneFor_16 : decode cX8_zoneFor 16 = .ok (.invokevirtual 90, 3) := by decide +kernel
theorem dX8_zoneFor_19 : decode cX8_zoneFor 19 = .ok (.ifCond .ne 5, 3) := by decide +kernel
theorem dX8_zoneFor_22 : decode cX8_zoneFor 22 = .ok (.iconst (-1), 1) := by decide +kernel
theorem dX8_zoneFor_23 : decode cX8_zoneFor 23 = .ok (.ireturn, 1) := by decide +kernel
theorem dX8_zoneFor_24 : decode cX8_zoneFor 24 = .ok (.aload_n 0, 1) := by decide +kernel
theorem dX8_zoneFor_25 : decode cX8_zoneFor 25 = .ok (.getfield 27, 3) := by decide +kernel
theorem dX8_zoneFor_28 : decode cX8_zoneFor 28 = .ok (.iload_n 1, 1) := by decide +kernel
theorem dX8_zoneFor_29 : decode cX8_zoneFor 29 = .ok (.iload_n 2, 1) := by decide +kernel
theorem dX8_zoneFor_30 : decode cX8_zoneFor 30 = .ok (.iload_n 3, 1) := by decide +kernel
theorem dX8_zoneFor_31 : decode cX8_zoneFor 31 = .ok (.invokevirtual 208, 3) := by decide +kernel
theorem dX8_zoneFor_34 : decode cX8_zoneFor 34 = .ok (.istore 4, 2) := by decide +kernel
theorem dX8_zoneFor_36 : decode cX8_zoneFor 36 = .ok (.iload 4, 2) := by decide +kernel
theorem dX8_zoneFor_38 : decode cX8_zoneFor 38 = .ok (.iconst (-1), 1) := by decide +kernel
theorem dX8_zoneFor_39 : decode cX8_zoneFor 39 = .ok (.if_icmp .ne 8, 3) := by decide +kernel
theorem dX8_zoneFor_42 : decode cX8_zoneFor 42 = .ok (.bipush (-4), 2) := by decide +kernel
theorem dX8_zoneFor_44 : decode cX8_zoneFor 44 = .ok (.goto 5, 3) := by decide +kernel
theorem dX8_zoneFor_47 : decode cX8_zoneFor 47 = .ok (.iload 4, 2) := by decide +kernel
theorem dX8_zoneFor_49 : decode cX8_zoneFor 49 = .ok (.ireturn, 1) := by decide +kernel
theorem dX8_source_0 : decode cX8_source 0 = .ok (.iload_n 1, 1) := by decide +kernel
theorem dX8_source_1 : decode cX8_source 1 = .ok (.invokestatic 51, 3) := by decide +kernel
theorem dX8_source_4 : decode cX8_source 4 = .ok (.ifCond .eq 20, 3) := by decide +kernel
theorem dX8_source_7 : decode cX8_source 7 = .ok (.iload_n 2, 1) := by decide +kernel
theorem dX8_source_8 : decode cX8_source 8 = .ok (.iload_n 3, 1) := by decide +kernel
theorem dX8_source_9 : decode cX8_source 9 = .ok (.invokestatic 199, 3) := by decide +kernel
theorem dX8_source_12 : decode cX8_source 12 = .ok (.ifCond .eq 12, 3) := by decide +kernel
theorem dX8_source_15 : decode cX8_source 15 = .ok (.aload_n 0, 1) := by decide +kernel
theorem dX8_source_16 : decode cX8_source 16 = .ok (.iload 4, 2) := by decide +kernel
theorem dX8_source_18 : decode cX8_source 18 = .ok (.invokevirtual 90, 3) := by decide +kernel
theorem dX8_source_21 : decode cX8_source 21 = .ok (.ifCond .ne 5, 3) := by decide +kernel
theorem dX8_source_24 : decode cX8_source 24 = .ok (.iconst (-1), 1) := by decide +kernel
theorem dX8_source_25 : decode cX8_source 25 = .ok (.ireturn, 1) := by decide +kernel
theorem dX8_source_26 : decode cX8_source 26 = .ok (.aload_n 0, 1) := by decide +kernel
theorem dX8_source_27 : decode cX8_source 27 = .ok (.getfield 19, 3) := by decide +kernel
theorem dX8_source_30 : decode cX8_source 30 = .ok (.iload_n 1, 1) := by decide +kernel
theorem dX8_source_31 : decode cX8_source 31 = .ok (.iload_n 2, 1) := by decide +kernel
theorem dX8_source_32 : decode cX8_source 32 = .ok (.iload_n 3, 1) := by decide +kernel
theorem dX8_source_33 : decode cX8_source 33 = .ok (.iload 4, 2) := by decide +kernel
theorem dX8_source_35 : decode cX8_source 35 = .ok (.invokevirtual 211, 3) := by decide +kernel
theorem dX8_source_38 : decode cX8_source 38 = .ok (.istore 5, 2) := by decide +kernel
theorem dX8_source_40 : decode cX8_source 40 = .ok (.iload 5, 2) := by decide +kernel
theorem dX8_source_42 : decode cX8_source 42 = .ok (.ifCond .ge 8, 3) := by decide +kernel
theorem dX8_source_45 : decode cX8_source 45 = .ok (.bipush (-4), 2) := by decide +kernel
theorem dX8_source_47 : decode cX8_source 47 = .ok (.goto 13, 3) := by decide +kernel
theorem dX8_source_50 : decode cX8_source 50 = .ok (.aload_n 0, 1) := by decide +kernel
theorem dX8_source_51 : decode cX8_source 51 = .ok (.getfield 32, 3) := by decide +kernel
theorem dX8_source_54 : decode cX8_source 54 = .ok (.getfield 173, 3) := by decide +kernel
theorem dX8_source_57 : decode cX8_source 57 = .ok (.iload 5, 2) := by decide +kernel
theorem dX8_source_59 : decode cX8_source 59 = .ok (.iaload, 1) := by decide +kernel
theorem dX8_source_60 : decode cX8_source 60 = .ok (.ireturn, 1) := by decide +kernel
theorem dX8_differences_0 : decode cX8_differences 0 = .ok (.iload_n 1, 1) := by decide +kernel
theorem dX8_differences_1 : decode cX8_differences 1 = .ok (.invokestatic 51, 3) := by decide +kernel
theorem dX8_differences_4 : decode cX8_differences 4 = .ok (.ifCond .eq 27, 3) := by decide +kernel
theorem dX8_differences_7 : decode cX8_differences 7 = .ok (.iload_n 2, 1) := by decide +kernel
theorem dX8_differences_8 : decode cX8_differences 8 = .ok (.invokestatic 156, 3) := by decide +kernel
theorem dX8_differences_11 : decode cX8_differences 11 = .ok (.ifCond .eq 20, 3) := by decide +kernel
theorem dX8_differences_14 : decode cX8_differences 14 = .ok (.aload_n 0, 1) := by decide +kernel
theorem dX8_differences_15 : decode cX8_differences 15 = .ok (.iload_n 3, 1) := by decide +kernel
theorem dX8_differences_16 : decode cX8_differences 16 = .ok (.invokevirtual 90, 3) := by decide +kernel
theorem dX8_differences_19 : decode cX8_differences 19 = .ok (.ifCond .eq 12, 3) := by decide +kernel
theorem dX8_differences_22 : decode cX8_differences 22 = .ok (.aload_n 0, 1) := by decide +kernel
theorem dX8_differences_23 : decode cX8_differences 23 = .ok (.iload 4, 2) := by decide +kernel
theorem dX8_differences_25 : decode cX8_differences 25 = .ok (.invokevirtual 90, 3) := by decide +kernel
theorem dX8_differences_28 : decode cX8_differences 28 = .ok (.ifCond .ne 5, 3) := by decide +kernel
theorem dX8_differences_31 : decode cX8_differences 31 = .ok (.iconst (-1), 1) := by decide +kernel
theorem dX8_differences_32 : decode cX8_differences 32 = .ok (.ireturn, 1) := by decide +kernel
theorem dX8_differences_33 : decode cX8_differences 33 = .ok (.aload_n 0, 1) := by decide +kernel
theorem dX8_differences_34 : decode cX8_differences 34 = .ok (.iload_n 1, 1) := by decide +kernel
theorem dX8_differences_35 : decode cX8_differences 35 = .ok (.iload_n 3, 1) := by decide +kernel
theorem dX8_differences_36 : decode cX8_differences 36 = .ok (.iload_n 1, 1) := by decide +kernel
theorem dX8_differences_37 : decode cX8_differences 37 = .ok (.iload 4, 2) := by decide +kernel
theorem dX8_differences_39 : decode cX8_differences 39 = .ok (.iload_n 2, 1) := by decide +kernel
theorem dX8_differences_40 : decode cX8_differences 40 = .ok (.invokevirtual 214, 3) := by decide +kernel
theorem dX8_differences_43 : decode cX8_differences 43 = .ok (.ireturn, 1) := by decide +kernel
theorem dX8_difference_0 : decode cX8_difference 0 = .ok (.iload_n 1, 1) := by decide +kernel
theorem dX8_difference_1 : decode cX8_difference 1 = .ok (.invokestatic 51, 3) := by decide +kernel
theorem dX8_difference_4 : decode cX8_difference 4 = .ok (.ifCond .eq 32, 3) := by decide +kernel
theorem dX8_difference_7 : decode cX8_difference 7 = .ok (.iload_n 2, 1) := by decide +kernel
theorem dX8_difference_8 : decode cX8_difference 8 = .ok (.invokestatic 156, 3) := by decide +kernel
theorem dX8_difference_11 : decode cX8_difference 11 = .ok (.ifCond .eq 25, 3) := by decide +kernel
theorem dX8_difference_14 : decode cX8_difference 14 = .ok (.aload_n 0, 1) := by decide +kernel
theorem dX8_difference_15 : decode cX8_difference 15 = .ok (.iload_n 3, 1) := by decide +kernel
theorem dX8_difference_16 : decode cX8_difference 16 = .ok (.invokevirtual 90, 3) := by decide +kernel
theorem dX8_difference_19 : decode cX8_difference 19 = .ok (.ifCond .eq 17, 3) := by decide +kernel
theorem dX8_difference_22 : decode cX8_difference 22 = .ok (.aload_n 0, 1) := by decide +kernel
theorem dX8_difference_23 : decode cX8_difference 23 = .ok (.iload 4, 2) := by decide +kernel
theorem dX8_difference_25 : decode cX8_difference 25 = .ok (.invokevirtual 90, 3) := by decide +kernel
theorem dX8_difference_28 : decode cX8_difference 28 = .ok (.ifCond .eq 8, 3) := by decide +kernel
theorem dX8_difference_31 : decode cX8_difference 31 = .ok (.iload 5, 2) := by decide +kernel
theorem dX8_difference_33 : decode cX8_difference 33 = .ok (.ifCond .ge 5, 3) := by decide +kernel
theorem dX8_difference_36 : decode cX8_difference 36 = .ok (.iconst (-1), 1) := by decide +kernel
theorem dX8_difference_37 : decode cX8_difference 37 = .ok (.ireturn, 1) := by decide +kernel
theorem dX8_difference_38 : decode cX8_difference 38 = .ok (.iconst 0, 1) := by decide +kernel
theorem dX8_difference_39 : decode cX8_difference 39 = .ok (.istore 6, 2) := by decide +kernel
theorem dX8_difference_41 : decode cX8_difference 41 = .ok (.iconst 1, 1) := by decide +kernel
theorem dX8_difference_42 : decode cX8_difference 42 = .ok (.istore 7, 2) := by decide +kernel
theorem dX8_difference_44 : decode cX8_difference 44 = .ok (.iload 7, 2) := by decide +kernel
theorem dX8_difference_46 : decode cX8_difference 46 = .ok (.bipush 124, 2) := by decide +kernel
theorem dX8_difference_48 : decode cX8_difference 48 = .ok (.if_icmp .gt 58, 3) := by decide +kernel
theorem dX8_difference_51 : decode cX8_difference 51 = .ok (.iload 7, 2) := by decide +kernel
theorem dX8_difference_53 : decode cX8_difference 53 = .ok (.invokestatic 97, 3) := by decide +kernel
theorem dX8_difference_56 : decode cX8_difference 56 = .ok (.ifCond .eq 44, 3) := by decide +kernel
theorem dX8_difference_59 : decode cX8_difference 59 = .ok (.aload_n 0, 1) := by decide +kernel
theorem dX8_difference_60 : decode cX8_difference 60 = .ok (.getfield 19, 3) := by decide +kernel
theorem dX8_difference_63 : decode cX8_difference 63 = .ok (.iload_n 1, 1) := by decide +kernel
theorem dX8_difference_64 : decode cX8_difference 64 = .ok (.iload 7, 2) := by decide +kernel
theorem dX8_difference_66 : decode cX8_difference 66 = .ok (.iload_n 2, 1) := by decide +kernel
theorem dX8_difference_67 : decode cX8_difference 67 = .ok (.iload_n 3, 1) := by decide +kernel
theorem dX8_difference_68 : decode cX8_difference 68 = .ok (.invokevirtual 205, 3) := by decide +kernel
theorem dX8_difference_71 : decode cX8_difference 71 = .ok (.aload_n 0, 1) := by decide +kernel
theorem dX8_difference_72 : decode cX8_difference 72 = .ok (.getfield 19, 3) := by decide +kernel
theorem dX8_difference_75 : decode cX8_difference 75 = .ok (.iload_n 1, 1) := by decide +kernel
theorem dX8_difference_76 : decode cX8_difference 76 = .ok (.iload 7, 2) := by decide +kernel
theorem dX8_difference_78 : decode cX8_difference 78 = .ok (.iload_n 2, 1) := by decide +kernel
theorem dX8_difference_79 : decode cX8_difference 79 = .ok (.iload 4, 2) := by decide +kernel
theorem dX8_difference_81 : decode cX8_difference 81 = .ok (.invokevirtual 205, 3) := by decide +kernel
theorem dX8_difference_84 : decode cX8_difference 84 = .ok (.if_icmp .eq 16, 3) := by decide +kernel
theorem dX8_difference_87 : decode cX8_difference 87 = .ok (.iload 6, 2) := by decide +kernel
theorem dX8_difference_89 : decode cX8_difference 89 = .ok (.iload 5, 2) := by decide +kernel
theorem dX8_difference_91 : decode cX8_difference 91 = .ok (.if_icmp .ne 6, 3) := by decide +kernel
theorem dX8_difference_94 : decode cX8_difference 94 = .ok (.iload 7, 2) := by decide +kernel
theorem dX8_difference_96 : decode cX8_difference 96 = .ok (.ireturn, 1) := by decide +kernel
theorem dX8_difference_97 : decode cX8_difference 97 = .ok (.iinc 6 1, 3) := by decide +kernel
theorem dX8_difference_100 : decode cX8_difference 100 = .ok (.iinc 7 1, 3) := by decide +kernel
theorem dX8_difference_103 : decode cX8_difference 103 = .ok (.goto (-59), 3) := by decide +kernel
theorem dX8_difference_106 : decode cX8_difference 106 = .ok (.bipush (-4), 2) := by decide +kernel
theorem dX8_difference_108 : decode cX8_difference 108 = .ok (.ireturn, 1) := by decide +kernel
theorem dX8_split_0 : decode cX8_split 0 = .ok (.iload_n 1, 1) := by decide +kernel
theorem dX8_split_1 : decode cX8_split 1 = .ok (.invokestatic 51, 3) := by decide +kernel
theorem dX8_split_4 : decode cX8_split 4 = .ok (.ifCond .eq 26, 3) := by decide +kernel
theorem dX8_split_7 : decode cX8_split 7 = .ok (.iload_n 2, 1) := by decide +kernel
theorem dX8_split_8 : decode cX8_split 8 = .ok (.invokestatic 51, 3) := by decide +kernel
theorem dX8_split_11 : decode cX8_split 11 = .ok (.ifCond .eq 19, 3) := by decide +kernel
theorem dX8_split_14 : decode cX8_split 14 = .ok (.iload_n 3, 1) := by decide +kernel
theorem dX8_split_15 : decode cX8_split 15 = .ok (.invokestatic 156, 3) := by decide +kernel
theorem dX8_split_18 : decode cX8_split 18 = .ok (.ifCond .eq 12, 3) := by decide +kernel
theorem dX8_split_21 : decode cX8_split 21 = .ok (.aload_n 0, 1) := by decide +kernel
theorem dX8_split_22 : decode cX8_split 22 = .ok (.iload 4, 2) := by decide +kernel
theorem dX8_split_24 : decode cX8_split 24 = .ok (.invokevirtual 90, 3) := by decide +kernel
theorem dX8_split_27 : decode cX8_split 27 = .ok (.ifCond .ne 5, 3) := by decide +kernel
theorem dX8_split_30 : decode cX8_split 30 = .ok (.iconst (-1), 1) := by decide +kernel
theorem dX8_split_31 : decode cX8_split 31 = .ok (.ireturn, 1) := by decide +kernel
theorem dX8_split_32 : decode cX8_split 32 = .ok (.aload_n 0, 1) := by decide +kernel
theorem dX8_split_33 : decode cX8_split 33 = .ok (.iload_n 1, 1) := by decide +kernel
theorem dX8_split_34 : decode cX8_split 34 = .ok (.iload 4, 2) := by decide +kernel
theorem dX8_split_36 : decode cX8_split 36 = .ok (.iload_n 2, 1) := by decide +kernel
theorem dX8_split_37 : decode cX8_split 37 = .ok (.iload 4, 2) := by decide +kernel
theorem dX8_split_39 : decode cX8_split 39 = .ok (.iload_n 3, 1) := by decide +kernel
theorem dX8_split_40 : decode cX8_split 40 = .ok (.invokevirtual 214, 3) := by decide +kernel
theorem dX8_split_43 : decode cX8_split 43 = .ok (.ireturn, 1) := by decide +kernel
theorem dX8_countDiffering_0 : decode cX8_countDiffering 0 = .ok (.iconst 0, 1) := by decide +kernel
theorem dX8_countDiffering_1 : decode cX8_countDiffering 1 = .ok (.istore 6, 2) := by decide +kernel
theorem dX8_countDiffering_3 : decode cX8_countDiffering 3 = .ok (.iconst 1, 1) := by decide +kernel
theorem dX8_countDiffering_4 : decode cX8_countDiffering 4 = .ok (.istore 7, 2) := by decide +kernel
theorem dX8_countDiffering_6 : decode cX8_countDiffering 6 = .ok (.iload 7, 2) := by decide +kernel
theorem dX8_countDiffering_8 : decode cX8_countDiffering 8 = .ok (.bipush 124, 2) := by decide +kernel
theorem dX8_countDiffering_10 : decode cX8_countDiffering 10 = .ok (.if_icmp .gt 50, 3) := by decide +kernel
theorem dX8_countDiffering_13 : decode cX8_countDiffering 13 = .ok (.iload 7, 2) := by decide +kernel
theorem dX8_countDiffering_15 : decode cX8_countDiffering 15 = .ok (.invokestatic 97, 3) := by decide +kernel
theorem dX8_countDiffering_18 : decode cX8_countDiffering 18 = .ok (.ifCond .eq 36, 3) := by decide +kernel
theorem dX8_countDiffering_21 : decode cX8_countDiffering 21 = .ok (.aload_n 0, 1) := by decide +kernel
theorem dX8_countDiffering_22 : decode cX8_countDiffering 22 = .ok (.getfield 19, 3) := by decide +kernel
theorem dX8_countDiffering_25 : decode cX8_countDiffering 25 = .ok (.iload_n 1, 1) := by decide +kernel
theorem dX8_countDiffering_26 : decode cX8_countDiffering 26 = .ok (.iload 7, 2) := by decide +kernel
theorem dX8_countDiffering_28 : decode cX8_countDiffering 28 = .ok (.iload 5, 2) := by decide +kernel
theorem dX8_countDiffering_30 : decode cX8_countDiffering 30 = .ok (.iload_n 2, 1) := by decide +kernel
theorem dX8_countDiffering_31 : decode cX8_countDiffering 31 = .ok (.invokevirtual 205, 3) := by decide +kernel
theorem dX8_countDiffering_34 : decode cX8_countDiffering 34 = .ok (.aload_n 0, 1) := by decide +kernel
theorem dX8_countDiffering_35 : decode cX8_countDiffering 35 = .ok (.getfield 19, 3) := by decide +kernel
theorem dX8_countDiffering_38 : decode cX8_countDiffering 38 = .ok (.iload_n 3, 1) := by decide +kernel
theorem dX8_countDiffering_39 : decode cX8_countDiffering 39 = .ok (.iload 7, 2) := by decide +kernel
theorem dX8_countDiffering_41 : decode cX8_countDiffering 41 = .ok (.iload 5, 2) := by decide +kernel
theorem dX8_countDiffering_43 : decode cX8_countDiffering 43 = .ok (.iload 4, 2) := by decide +kernel
theorem dX8_countDiffering_45 : decode cX8_countDiffering 45 = .ok (.invokevirtual 205, 3) := by decide +kernel
theorem dX8_countDiffering_48 : decode cX8_countDiffering 48 = .ok (.if_icmp .eq 6, 3) := by decide +kernel
theorem dX8_countDiffering_51 : decode cX8_countDiffering 51 = .ok (.iinc 6 1, 3) := by decide +kernel
theorem dX8_countDiffering_54 : decode cX8_countDiffering 54 = .ok (.iinc 7 1, 3) := by decide +kernel
theorem dX8_countDiffering_57 : decode cX8_countDiffering 57 = .ok (.goto (-51), 3) := by decide +kernel
theorem dX8_countDiffering_60 : decode cX8_countDiffering 60 = .ok (.iload 6, 2) := by decide +kernel
theorem dX8_countDiffering_62 : decode cX8_countDiffering 62 = .ok (.ireturn, 1) := by decide +kernel
theorem dX8_since_0 : decode cX8_since 0 = .ok (.iload_n 1, 1) := by decide +kernel
theorem dX8_since_1 : decode cX8_since 1 = .ok (.invokestatic 51, 3) := by decide +kernel
theorem dX8_since_4 : decode cX8_since 4 = .ok (.ifCond .eq 11, 3) := by decide +kernel
theorem dX8_since_7 : decode cX8_since 7 = .ok (.iload_n 2, 1) := by decide +kernel
theorem dX8_since_8 : decode cX8_since 8 = .ok (.iload_n 3, 1) := by decide +kernel
theorem dX8_since_9 : decode cX8_since 9 = .ok (.invokestatic 199, 3) := by decide +kernel
theorem dX8_since_12 : decode cX8_since 12 = .ok (.ifCond .ne 5, 3) := by decide +kernel
theorem dX8_since_15 : decode cX8_since 15 = .ok (.iconst (-1), 1) := by decide +kernel
theorem dX8_since_16 : decode cX8_since 16 = .ok (.ireturn, 1) := by decide +kernel
theorem dX8_since_17 : decode cX8_since 17 = .ok (.aload_n 0, 1) := by decide +kernel
theorem dX8_since_18 : decode cX8_since 18 = .ok (.getfield 19, 3) := by decide +kernel
theorem dX8_since_21 : decode cX8_since 21 = .ok (.iload_n 1, 1) := by decide +kernel
theorem dX8_since_22 : decode cX8_since 22 = .ok (.iload_n 2, 1) := by decide +kernel
theorem dX8_since_23 : decode cX8_since 23 = .ok (.iload_n 3, 1) := by decide +kernel
theorem dX8_since_24 : decode cX8_since 24 = .ok (.aload_n 0, 1) := by decide +kernel
theorem dX8_since_25 : decode cX8_since 25 = .ok (.getfield 47, 3) := by decide +kernel
theorem dX8_since_28 : decode cX8_since 28 = .ok (.invokevirtual 205, 3) := by decide +kernel
theorem dX8_since_31 : decode cX8_since 31 = .ok (.istore 4, 2) := by decide +kernel
theorem dX8_since_33 : decode cX8_since 33 = .ok (.aload_n 0, 1) := by decide +kernel
theorem dX8_since_34 : decode cX8_since 34 = .ok (.getfield 19, 3) := by decide +kernel
theorem dX8_since_37 : decode cX8_since 37 = .ok (.aload_n 0, 1) := by decide +kernel
theorem dX8_since_38 : decode cX8_since 38 = .ok (.getfield 47, 3) := by decide +kernel
theorem dX8_since_41 : decode cX8_since 41 = .ok (.invokevirtual 218, 3) := by decide +kernel
theorem dX8_since_44 : decode cX8_since 44 = .ok (.istore 5, 2) := by decide +kernel
theorem dX8_since_46 : decode cX8_since 46 = .ok (.iconst 0, 1) := by decide +kernel
theorem dX8_since_47 : decode cX8_since 47 = .ok (.istore 6, 2) := by decide +kernel
theorem dX8_since_49 : decode cX8_since 49 = .ok (.iload 6, 2) := by decide +kernel
theorem dX8_since_51 : decode cX8_since 51 = .ok (.sipush 9999, 3) := by decide +kernel
theorem dX8_since_54 : decode cX8_since 54 = .ok (.if_icmp .ge 49, 3) := by decide +kernel
theorem dX8_since_57 : decode cX8_since 57 = .ok (.iload 5, 2) := by decide +kernel
theorem dX8_since_59 : decode cX8_since 59 = .ok (.ifCond .le 44, 3) := by decide +kernel
theorem dX8_since_62 : decode cX8_since 62 = .ok (.aload_n 0, 1) := by decide +kernel
theorem dX8_since_63 : decode cX8_since 63 = .ok (.getfield 19, 3) := by decide +kernel
theorem dX8_since_66 : decode cX8_since 66 = .ok (.iload_n 1, 1) := by decide +kernel
theorem dX8_since_67 : decode cX8_since 67 = .ok (.iload_n 2, 1) := by decide +kernel
theorem dX8_since_68 : decode cX8_since 68 = .ok (.iload_n 3, 1) := by decide +kernel
theorem dX8_since_69 : decode cX8_since 69 = .ok (.iload 5, 2) := by decide +kernel
theorem dX8_since_71 : decode cX8_since 71 = .ok (.iconst 1, 1) := by decide +kernel
theorem dX8_since_72 : decode cX8_since 72 = .ok (.isub, 1) := by decide +kernel
theorem dX8_since_73 : decode cX8_since 73 = .ok (.invokevirtual 205, 3) := by decide +kernel
theorem dX8_since_76 : decode cX8_since 76 = .ok (.iload 4, 2) := by decide +kernel
theorem dX8_since_78 : decode cX8_since 78 = .ok (.if_icmp .eq 6, 3) := by decide +kernel
theorem dX8_since_81 : decode cX8_since 81 = .ok (.iload 5, 2) := by decide +kernel
theorem dX8_since_83 : decode cX8_since 83 = .ok (.ireturn, 1) := by decide +kernel
theorem dX8_since_84 : decode cX8_since 84 = .ok (.aload_n 0, 1) := by decide +kernel
theorem dX8_since_85 : decode cX8_since 85 = .ok (.getfield 19, 3) := by decide +kernel
theorem dX8_since_88 : decode cX8_since 88 = .ok (.iload 5, 2) := by decide +kernel
theorem dX8_since_90 : decode cX8_since 90 = .ok (.iconst 1, 1) := by decide +kernel
theorem dX8_since_91 : decode cX8_since 91 = .ok (.isub, 1) := by decide +kernel
theorem dX8_since_92 : decode cX8_since 92 = .ok (.invokevirtual 218, 3) := by decide +kernel
theorem dX8_since_95 : decode cX8_since 95 = .ok (.istore 5, 2) := by decide +kernel
theorem dX8_since_97 : decode cX8_since 97 = .ok (.iinc 6 1, 3) := by decide +kernel
theorem dX8_since_100 : decode cX8_since 100 = .ok (.goto (-51), 3) := by decide +kernel
theorem dX8_since_103 : decode cX8_since 103 = .ok (.iload 5, 2) := by decide +kernel
theorem dX8_since_105 : decode cX8_since 105 = .ok (.ireturn, 1) := by decide +kernel
theorem dX8_seenBy_0 : decode cX8_seenBy 0 = .ok (.iload_n 1, 1) := by decide +kernel
theorem dX8_seenBy_1 : decode cX8_seenBy 1 = .ok (.iload_n 2, 1) := by decide +kernel
theorem dX8_seenBy_2 : decode cX8_seenBy 2 = .ok (.invokestatic 199, 3) := by decide +kernel
theorem dX8_seenBy_5 : decode cX8_seenBy 5 = .ok (.ifCond .eq 12, 3) := by decide +kernel
theorem dX8_seenBy_8 : decode cX8_seenBy 8 = .ok (.aload_n 0, 1) := by decide +kernel
theorem dX8_seenBy_9 : decode cX8_seenBy 9 = .ok (.iload 4, 2) := by decide +kernel
theorem dX8_seenBy_11 : decode cX8_seenBy 11 = .ok (.invokevirtual 90, 3) := by decide +kernel
theorem dX8_seenBy_14 : decode cX8_seenBy 14 = .ok (.ifCond .ne 5, 3) := by decide +kernel
theorem dX8_seenBy_17 : decode cX8_seenBy 17 = .ok (.iconst (-1), 1) := by decide +kernel
theorem dX8_seenBy_18 : decode cX8_seenBy 18 = .ok (.ireturn, 1) := by decide +kernel
theorem dX8_seenBy_19 : decode cX8_seenBy 19 = .ok (.iconst 0, 1) := by decide +kernel
theorem dX8_seenBy_20 : decode cX8_seenBy 20 = .ok (.istore 5, 2) := by decide +kernel
theorem dX8_seenBy_22 : decode cX8_seenBy 22 = .ok (.iconst 0, 1) := by decide +kernel
theorem dX8_seenBy_23 : decode cX8_seenBy 23 = .ok (.istore 6, 2) := by decide +kernel
theorem dX8_seenBy_25 : decode cX8_seenBy 25 = .ok (.iload 6, 2) := by decide +kernel
theorem dX8_seenBy_27 : decode cX8_seenBy 27 = .ok (.iconst 3, 1) := by decide +kernel
theorem dX8_seenBy_28 : decode cX8_seenBy 28 = .ok (.if_icmp .gt 42, 3) := by decide +kernel
theorem dX8_seenBy_31 : decode cX8_seenBy 31 = .ok (.aload_n 0, 1) := by decide +kernel
theorem dX8_seenBy_32 : decode cX8_seenBy 32 = .ok (.getfield 19, 3) := by decide +kernel
theorem dX8_seenBy_35 : decode cX8_seenBy 35 = .ok (.iload 6, 2) := by decide +kernel
theorem dX8_seenBy_37 : decode cX8_seenBy 37 = .ok (.iload_n 1, 1) := by decide +kernel
theorem dX8_seenBy_38 : decode cX8_seenBy 38 = .ok (.iload_n 2, 1) := by decide +kernel
theorem dX8_seenBy_39 : decode cX8_seenBy 39 = .ok (.iload 4, 2) := by decide +kernel
theorem dX8_seenBy_41 : decode cX8_seenBy 41 = .ok (.invokevirtual 205, 3) := by decide +kernel
theorem dX8_seenBy_44 : decode cX8_seenBy 44 = .ok (.iload_n 3, 1) := by decide +kernel
theorem dX8_seenBy_45 : decode cX8_seenBy 45 = .ok (.if_icmp .ne 19, 3) := by decide +kernel
theorem dX8_seenBy_48 : decode cX8_seenBy 48 = .ok (.iload 5, 2) := by decide +kernel
theorem dX8_seenBy_50 : decode cX8_seenBy 50 = .ok (.aload_n 0, 1) := by decide +kernel
theorem dX8_seenBy_51 : decode cX8_seenBy 51 = .ok (.getfield 10, 3) := by decide +kernel
theorem dX8_seenBy_54 : decode cX8_seenBy 54 = .ok (.iload 6, 2) := by decide +kernel
theorem dX8_seenBy_56 : decode cX8_seenBy 56 = .ok (.iload 4, 2) := by decide +kernel
theorem dX8_seenBy_58 : decode cX8_seenBy 58 = .ok (.invokevirtual 221, 3) := by decide +kernel
theorem dX8_seenBy_61 : decode cX8_seenBy 61 = .ok (.iadd, 1) := by decide +kernel
theorem dX8_seenBy_62 : decode cX8_seenBy 62 = .ok (.istore 5, 2) := by decide +kernel
theorem dX8_seenBy_64 : decode cX8_seenBy 64 = .ok (.iinc 6 1, 3) := by decide +kernel
theorem dX8_seenBy_67 : decode cX8_seenBy 67 = .ok (.goto (-42), 3) := by decide +kernel
theorem dX8_seenBy_70 : decode cX8_seenBy 70 = .ok (.iload 5, 2) := by decide +kernel
theorem dX8_seenBy_72 : decode cX8_seenBy 72 = .ok (.ireturn, 1) := by decide +kernel
theorem dX8_setKeeping_0 : decode cX8_setKeeping 0 = .ok (.iload_n 1, 1) := by decide +kernel
theorem dX8_setKeeping_1 : decode cX8_setKeeping 1 = .ok (.ifCond .lt 9, 3) := by decide +kernel
theorem dX8_setKeeping_4 : decode cX8_setKeeping 4 = .ok (.iload_n 1, 1) := by decide +kernel
theorem dX8_setKeeping_5 : decode cX8_setKeeping 5 = .ok (.bipush 100, 2) := by decide +kernel
theorem dX8_setKeeping_7 : decode cX8_setKeeping 7 = .ok (.if_icmp .le 5, 3) := by decide +kernel
theorem dX8_setKeeping_10 : decode cX8_setKeeping 10 = .ok (.iconst (-1), 1) := by decide +kernel
theorem dX8_setKeeping_11 : decode cX8_setKeeping 11 = .ok (.ireturn, 1) := by decide +kernel
theorem dX8_setKeeping_12 : decode cX8_setKeeping 12 = .ok (.aload_n 0, 1) := by decide +kernel
theorem dX8_setKeeping_13 : decode cX8_setKeeping 13 = .ok (.getfield 36, 3) := by decide +kernel
theorem dX8_setKeeping_16 : decode cX8_setKeeping 16 = .ok (.getfield 224, 3) := by decide +kernel
theorem dX8_setKeeping_19 : decode cX8_setKeeping 19 = .ok (.istore_n 2, 1) := by decide +kernel
theorem dX8_setKeeping_20 : decode cX8_setKeeping 20 = .ok (.aload_n 0, 1) := by decide +kernel
theorem dX8_setKeeping_21 : decode cX8_setKeeping 21 = .ok (.getfield 36, 3) := by decide +kernel
theorem dX8_setKeeping_24 : decode cX8_setKeeping 24 = .ok (.iload_n 1, 1) := by decide +kernel
theorem dX8_setKeeping_25 : decode cX8_setKeeping 25 = .ok (.putfield 224, 3) := by decide +kernel
theorem dX8_setKeeping_28 : decode cX8_setKeeping 28 = .ok (.iload_n 2, 1) := by decide +kernel
theorem dX8_setKeeping_29 : decode cX8_setKeeping 29 = .ok (.ireturn, 1) := by decide +kernel
theorem dX8_ask_0 : decode cX8_ask 0 = .ok (.iload_n 1, 1) := by decide +kernel
theorem dX8_ask_1 : decode cX8_ask 1 = .ok (.invokestatic 55, 3) := by decide +kernel
theorem dX8_ask_4 : decode cX8_ask 4 = .ok (.ifCond .eq 11, 3) := by decide +kernel
theorem dX8_ask_7 : decode cX8_ask 7 = .ok (.iload_n 2, 1) := by decide +kernel
theorem dX8_ask_8 : decode cX8_ask 8 = .ok (.iload_n 3, 1) := by decide +kernel
theorem dX8_ask_9 : decode cX8_ask 9 = .ok (.invokestatic 199, 3) := by decide +kernel
theorem dX8_ask_12 : decode cX8_ask 12 = .ok (.ifCond .ne 5, 3) := by decide +kernel
theorem dX8_ask_15 : decode cX8_ask 15 = .ok (.iconst (-1), 1) := by decide +kernel
theorem dX8_ask_16 : decode cX8_ask 16 = .ok (.ireturn, 1) := by decide +kernel
theorem dX8_ask_17 : decode cX8_ask 17 = .ok (.aload_n 0, 1) := by decide +kernel
theorem dX8_ask_18 : decode cX8_ask 18 = .ok (.getfield 36, 3) := by decide +kernel
theorem dX8_ask_21 : decode cX8_ask 21 = .ok (.iload_n 1, 1) := by decide +kernel
theorem dX8_ask_22 : decode cX8_ask 22 = .ok (.iload_n 2, 1) := by decide +kernel
theorem dX8_ask_23 : decode cX8_ask 23 = .ok (.iload_n 3, 1) := by decide +kernel
theorem dX8_ask_24 : decode cX8_ask 24 = .ok (.invokevirtual 227, 3) := by decide +kernel
theorem dX8_ask_27 : decode cX8_ask 27 = .ok (.istore 4, 2) := by decide +kernel
theorem dX8_ask_29 : decode cX8_ask 29 = .ok (.iload 4, 2) := by decide +kernel
theorem dX8_ask_31 : decode cX8_ask 31 = .ok (.iconst (-1), 1) := by decide +kernel
theorem dX8_ask_32 : decode cX8_ask 32 = .ok (.if_icmp .eq 43, 3) := by decide +kernel
theorem dX8_ask_35 : decode cX8_ask 35 = .ok (.aload_n 0, 1) := by decide +kernel
theorem dX8_ask_36 : decode cX8_ask 36 = .ok (.getfield 36, 3) := by decide +kernel
theorem dX8_ask_39 : decode cX8_ask 39 = .ok (.iload 4, 2) := by decide +kernel
theorem dX8_ask_41 : decode cX8_ask 41 = .ok (.aload_n 0, 1) := by decide +kernel
theorem dX8_ask_42 : decode cX8_ask 42 = .ok (.getfield 47, 3) := by decide +kernel
theorem dX8_ask_45 : decode cX8_ask 45 = .ok (.invokevirtual 228, 3) := by decide +kernel
theorem dX8_ask_48 : decode cX8_ask 48 = .ok (.ifCond .eq 27, 3) := by decide +kernel
theorem dX8_ask_51 : decode cX8_ask 51 = .ok (.aload_n 0, 1) := by decide +kernel
theorem dX8_ask_52 : decode cX8_ask 52 = .ok (.getfield 36, 3) := by decide +kernel
theorem dX8_ask_55 : decode cX8_ask 55 = .ok (.dup, 1) := by decide +kernel
theorem dX8_ask_56 : decode cX8_ask 56 = .ok (.getfield 143, 3) := by decide +kernel
theorem dX8_ask_59 : decode cX8_ask 59 = .ok (.iconst 1, 1) := by decide +kernel
theorem dX8_ask_60 : decode cX8_ask 60 = .ok (.iadd, 1) := by decide +kernel
theorem dX8_ask_61 : decode cX8_ask 61 = .ok (.putfield 143, 3) := by decide +kernel
theorem dX8_ask_64 : decode cX8_ask 64 = .ok (.aload_n 0, 1) := by decide +kernel
theorem dX8_ask_65 : decode cX8_ask 65 = .ok (.getfield 36, 3) := by decide +kernel
theorem dX8_ask_68 : decode cX8_ask 68 = .ok (.getfield 231, 3) := by decide +kernel
theorem dX8_ask_71 : decode cX8_ask 71 = .ok (.iload 4, 2) := by decide +kernel
theorem dX8_ask_73 : decode cX8_ask 73 = .ok (.iaload, 1) := by decide +kernel
theorem dX8_ask_74 : decode cX8_ask 74 = .ok (.ireturn, 1) := by decide +kernel
theorem dX8_ask_75 : decode cX8_ask 75 = .ok (.aload_n 0, 1) := by decide +kernel
theorem dX8_ask_76 : decode cX8_ask 76 = .ok (.iload_n 1, 1) := by decide +kernel
theorem dX8_ask_77 : decode cX8_ask 77 = .ok (.iload_n 2, 1) := by decide +kernel
theorem dX8_ask_78 : decode cX8_ask 78 = .ok (.iload_n 3, 1) := by decide +kernel
theorem dX8_ask_79 : decode cX8_ask 79 = .ok (.aload_n 0, 1) := by decide +kernel
theorem dX8_ask_80 : decode cX8_ask 80 = .ok (.getfield 47, 3) := by decide +kernel
theorem dX8_ask_83 : decode cX8_ask 83 = .ok (.invokevirtual 202, 3) := by decide +kernel
theorem dX8_ask_86 : decode cX8_ask 86 = .ok (.istore 5, 2) := by decide +kernel
theorem dX8_ask_88 : decode cX8_ask 88 = .ok (.aload_n 0, 1) := by decide +kernel
theorem dX8_ask_89 : decode cX8_ask 89 = .ok (.getfield 36, 3) := by decide +kernel
theorem dX8_ask_92 : decode cX8_ask 92 = .ok (.iload_n 1, 1) := by decide +kernel
theorem dX8_ask_93 : decode cX8_ask 93 = .ok (.iload_n 2, 1) := by decide +kernel
theorem dX8_ask_94 : decode cX8_ask 94 = .ok (.iload_n 3, 1) := by decide +kernel
theorem dX8_ask_95 : decode cX8_ask 95 = .ok (.iload 5, 2) := by decide +kernel
theorem dX8_ask_97 : decode cX8_ask 97 = .ok (.aload_n 0, 1) := by decide +kernel
theorem dX8_ask_98 : decode cX8_ask 98 = .ok (.getfield 47, 3) := by decide +kernel
theorem dX8_ask_101 : decode cX8_ask 101 = .ok (.invokevirtual 234, 3) := by decide +kernel
theorem dX8_ask_104 : decode cX8_ask 104 = .ok (.iload 5, 2) := by decide +kernel
theorem dX8_ask_106 : decode cX8_ask 106 = .ok (.ireturn, 1) := by decide +kernel
theorem dX8_stale_0 : decode cX8_stale 0 = .ok (.iconst 0, 1) := by decide +kernel
theorem dX8_stale_1 : decode cX8_stale 1 = .ok (.istore_n 1, 1) := by decide +kernel
theorem dX8_stale_2 : decode cX8_stale 2 = .ok (.iconst 0, 1) := by decide +kernel
theorem dX8_stale_3 : decode cX8_stale 3 = .ok (.istore_n 2, 1) := by decide +kernel
theorem dX8_stale_4 : decode cX8_stale 4 = .ok (.iload_n 2, 1) := by decide +kernel
theorem dX8_stale_5 : decode cX8_stale 5 = .ok (.aload_n 0, 1) := by decide +kernel
theorem dX8_stale_6 : decode cX8_stale 6 = .ok (.getfield 36, 3) := by decide +kernel
theorem dX8_stale_9 : decode cX8_stale 9 = .ok (.getfield 140, 3) := by decide +kernel
theorem dX8_stale_12 : decode cX8_stale 12 = .ok (.if_icmp .ge 74, 3) := by decide +kernel
theorem dX8_stale_15 : decode cX8_stale 15 = .ok (.aload_n 0, 1) := by decide +kernel
theorem dX8_stale_16 : decode cX8_stale 16 = .ok (.getfield 36, 3) := by decide +kernel
theorem dX8_stale_19 : decode cX8_stale 19 = .ok (.iload_n 2, 1) := by decide +kernel
theorem dX8_stale_20 : decode cX8_stale 20 = .ok (.aload_n 0, 1) := by decide +kernel
theorem dX8_stale_21 : decode cX8_stale 21 = .ok (.getfield 47, 3) := by decide +kernel
theorem dX8_stale_24 : decode cX8_stale 24 = .ok (.invokevirtual 228, 3) := by decide +kernel
theorem dX8_stale_27 : decode cX8_stale 27 = .ok (.ifCond .eq 53, 3) := by decide +kernel
theorem dX8_stale_30 : decode cX8_stale 30 = .ok (.aload_n 0, 1) := by decide +kernel
theorem dX8_stale_31 : decode cX8_stale 31 = .ok (.getfield 36, 3) := by decide +kernel
theorem dX8_stale_34 : decode cX8_stale 34 = .ok (.getfield 231, 3) := by decide +kernel
theorem dX8_stale_37 : decode cX8_stale 37 = .ok (.iload_n 2, 1) := by decide +kernel
theorem dX8_stale_38 : decode cX8_stale 38 = .ok (.iaload, 1) := by decide +kernel
theorem dX8_stale_39 : decode cX8_stale 39 = .ok (.aload_n 0, 1) := by decide +kernel
theorem dX8_stale_40 : decode cX8_stale 40 = .ok (.aload_n 0, 1) := by decide +kernel
theorem dX8_stale_41 : decode cX8_stale 41 = .ok (.getfield 36, 3) := by decide +kernel
theorem dX8_stale_44 : decode cX8_stale 44 = .ok (.getfield 237, 3) := by decide +kernel
theorem dX8_stale_47 : decode cX8_stale 47 = .ok (.iload_n 2, 1) := by decide +kernel
theorem dX8_stale_48 : decode cX8_stale 48 = .ok (.iaload, 1) := by decide +kernel
theorem dX8_stale_49 : decode cX8_stale 49 = .ok (.aload_n 0, 1) := by decide +kernel
theorem dX8_stale_50 : decode cX8_stale 50 = .ok (.getfield 36, 3) := by decide +kernel
theorem dX8_stale_53 : decode cX8_stale 53 = .ok (.getfield 240, 3) := by decide +kernel
theorem dX8_stale_56 : decode cX8_stale 56 = .ok (.iload_n 2, 1) := by decide +kernel
theorem dX8_stale_57 : decode cX8_stale 57 = .ok (.iaload, 1) := by decide +kernel
theorem dX8_stale_58 : decode cX8_stale 58 = .ok (.aload_n 0, 1) := by decide +kernel
theorem dX8_stale_59 : decode cX8_stale 59 = .ok (.getfield 36, 3) := by decide +kernel
theorem dX8_stale_62 : decode cX8_stale 62 = .ok (.getfield 241, 3) := by decide +kernel
theorem dX8_stale_65 : decode cX8_stale 65 = .ok (.iload_n 2, 1) := by decide +kernel
theorem dX8_stale_66 : decode cX8_stale 66 = .ok (.iaload, 1) := by decide +kernel
theorem dX8_stale_67 : decode cX8_stale 67 = .ok (.aload_n 0, 1) := by decide +kernel
theorem dX8_stale_68 : decode cX8_stale 68 = .ok (.getfield 47, 3) := by decide +kernel
theorem dX8_stale_71 : decode cX8_stale 71 = .ok (.invokevirtual 202, 3) := by decide +kernel
theorem dX8_stale_74 : decode cX8_stale 74 = .ok (.if_icmp .eq 6, 3) := by decide +kernel
theorem dX8_stale_77 : decode cX8_stale 77 = .ok (.iinc 1 1, 3) := by decide +kernel
theorem dX8_stale_80 : decode cX8_stale 80 = .ok (.iinc 2 1, 3) := by decide +kernel
theorem dX8_stale_83 : decode cX8_stale 83 = .ok (.goto (-79), 3) := by decide +kernel
theorem dX8_stale_86 : decode cX8_stale 86 = .ok (.iload_n 1, 1) := by decide +kernel
theorem dX8_stale_87 : decode cX8_stale 87 = .ok (.ireturn, 1) := by decide +kernel
theorem dX8_type_0 : decode cX8_type 0 = .ok (.iload_n 1, 1) := by decide +kernel
theorem dX8_type_1 : decode cX8_type 1 = .ok (.bipush 32, 2) := by decide +kernel
theorem dX8_type_3 : decode cX8_type 3 = .ok (.if_icmp .lt 9, 3) := by decide +kernel
theorem dX8_type_6 : decode cX8_type 6 = .ok (.iload_n 1, 1) := by decide +kernel
theorem dX8_type_7 : decode cX8_type 7 = .ok (.bipush 126, 2) := by decide +kernel
theorem dX8_type_9 : decode cX8_type 9 = .ok (.if_icmp .le 5, 3) := by decide +kernel
theorem dX8_type_12 : decode cX8_type 12 = .ok (.iconst (-1), 1) := by decide +kernel
theorem dX8_type_13 : decode cX8_type 13 = .ok (.ireturn, 1) := by decide +kernel
theorem dX8_type_14 : decode cX8_type 14 = .ok (.aload_n 0, 1) := by decide +kernel
theorem dX8_type_15 : decode cX8_type 15 = .ok (.getfield 43, 3) := by decide +kernel
theorem dX8_type_18 : decode cX8_type 18 = .ok (.getfield 242, 3) := by decide +kernel
theorem dX8_type_21 : decode cX8_type 21 = .ok (.bipush 60, 2) := by decide +kernel
theorem dX8_type_23 : decode cX8_type 23 = .ok (.if_icmp .lt 6, 3) := by decide +kernel
theorem dX8_type_26 : decode cX8_type 26 = .ok (.bipush (-3), 2) := by decide +kernel
theorem dX8_type_28 : decode cX8_type 28 = .ok (.ireturn, 1) := by decide +kernel
theorem dX8_type_29 : decode cX8_type 29 = .ok (.aload_n 0, 1) := by decide +kernel
theorem dX8_type_30 : decode cX8_type 30 = .ok (.getfield 43, 3) := by decide +kernel
theorem dX8_type_33 : decode cX8_type 33 = .ok (.iload_n 1, 1) := by decide +kernel
theorem dX8_type_34 : decode cX8_type 34 = .ok (.invokevirtual 245, 3) := by decide +kernel
theorem dX8_type_37 : decode cX8_type 37 = .ok (.aload_n 0, 1) := by decide +kernel
theorem dX8_type_38 : decode cX8_type 38 = .ok (.getfield 43, 3) := by decide +kernel
theorem dX8_type_41 : decode cX8_type 41 = .ok (.getfield 242, 3) := by decide +kernel
theorem dX8_type_44 : decode cX8_type 44 = .ok (.ireturn, 1) := by decide +kernel
theorem dX8_clearText_0 : decode cX8_clearText 0 = .ok (.aload_n 0, 1) := by decide +kernel
theorem dX8_clearText_1 : decode cX8_clearText 1 = .ok (.getfield 43, 3) := by decide +kernel
theorem dX8_clearText_4 : decode cX8_clearText 4 = .ok (.getfield 242, 3) := by decide +kernel
theorem dX8_clearText_7 : decode cX8_clearText 7 = .ok (.istore_n 1, 1) := by decide +kernel
theorem dX8_clearText_8 : decode cX8_clearText 8 = .ok (.aload_n 0, 1) := by decide +kernel
theorem dX8_clearText_9 : decode cX8_clearText 9 = .ok (.getfield 43, 3) := by decide +kernel
theorem dX8_clearText_12 : decode cX8_clearText 12 = .ok (.iconst 0, 1) := by decide +kernel
theorem dX8_clearText_13 : decode cX8_clearText 13 = .ok (.putfield 242, 3) := by decide +kernel
theorem dX8_clearText_16 : decode cX8_clearText 16 = .ok (.iload_n 1, 1) := by decide +kernel
theorem dX8_clearText_17 : decode cX8_clearText 17 = .ok (.ireturn, 1) := by decide +kernel
theorem dX8_fault_0 : decode cX8_fault 0 = .ok (.aload_n 0, 1) := by decide +kernel
theorem dX8_fault_1 : decode cX8_fault 1 = .ok (.getfield 43, 3) := by decide +kernel
theorem dX8_fault_4 : decode cX8_fault 4 = .ok (.invokevirtual 179, 3) := by decide +kernel
theorem dX8_fault_7 : decode cX8_fault 7 = .ok (.ireturn, 1) := by decide +kernel
theorem dX8_isTick_0 : decode cX8_isTick 0 = .ok (.iload_n 1, 1) := by decide +kernel
theorem dX8_isTick_1 : decode cX8_isTick 1 = .ok (.ifCond .lt 15, 3) := by decide +kernel
theorem dX8_isTick_4 : decode cX8_isTick 4 = .ok (.iload_n 1, 1) := by decide +kernel
theorem dX8_isTick_5 : decode cX8_isTick 5 = .ok (.aload_n 0, 1) := by decide +kernel
theorem dX8_isTick_6 : decode cX8_isTick 6 = .ok (.getfield 47, 3) := by decide +kernel
theorem dX8_isTick_9 : decode cX8_isTick 9 = .ok (.if_icmp .gt 7, 3) := by decide +kernel
theorem dX8_isTick_12 : decode cX8_isTick 12 = .ok (.iconst 1, 1) := by decide +kernel
theorem dX8_isTick_13 : decode cX8_isTick 13 = .ok (.goto 4, 3) := by decide +kernel
theorem dX8_isTick_16 : decode cX8_isTick 16 = .ok (.iconst 0, 1) := by decide +kernel
theorem dX8_isTick_17 : decode cX8_isTick 17 = .ok (.ireturn, 1) := by decide +kernel
theorem dX8_isView_0 : decode cX8_isView 0 = .ok (.iload_n 0, 1) := by decide +kernel
theorem dX8_isView_1 : decode cX8_isView 1 = .ok (.ifCond .lt 12, 3) := by decide +kernel
theorem dX8_isView_4 : decode cX8_isView 4 = .ok (.iload_n 0, 1) := by decide +kernel
theorem dX8_isView_5 : decode cX8_isView 5 = .ok (.iconst 3, 1) := by decide +kernel
theorem dX8_isView_6 : decode cX8_isView 6 = .ok (.if_icmp .gt 7, 3) := by decide +kernel
theorem dX8_isView_9 : decode cX8_isView 9 = .ok (.iconst 1, 1) := by decide +kernel
theorem dX8_isView_10 : decode cX8_isView 10 = .ok (.goto 4, 3) := by decide +kernel
theorem dX8_isView_13 : decode cX8_isView 13 = .ok (.iconst 0, 1) := by decide +kernel
theorem dX8_isView_14 : decode cX8_isView 14 = .ok (.ireturn, 1) := by decide +kernel
theorem dX8_isAddress_0 : decode cX8_isAddress 0 = .ok (.iload_n 0, 1) := by decide +kernel
theorem dX8_isAddress_1 : decode cX8_isAddress 1 = .ok (.ifCond .lt 14, 3) := by decide +kernel
theorem dX8_isAddress_4 : decode cX8_isAddress 4 = .ok (.iload_n 0, 1) := by decide +kernel
theorem dX8_isAddress_5 : decode cX8_isAddress 5 = .ok (.sipush 255, 3) := by decide +kernel
theorem dX8_isAddress_8 : decode cX8_isAddress 8 = .ok (.if_icmp .gt 7, 3) := by decide +kernel
theorem dX8_isAddress_11 : decode cX8_isAddress 11 = .ok (.iconst 1, 1) := by decide +kernel
theorem dX8_isAddress_12 : decode cX8_isAddress 12 = .ok (.goto 4, 3) := by decide +kernel
theorem dX8_isAddress_15 : decode cX8_isAddress 15 = .ok (.iconst 0, 1) := by decide +kernel
theorem dX8_isAddress_16 : decode cX8_isAddress 16 = .ok (.ireturn, 1) := by decide +kernel
theorem dX8_isType_0 : decode cX8_isType 0 = .ok (.iload_n 0, 1) := by decide +kernel
theorem dX8_isType_1 : decode cX8_isType 1 = .ok (.ifCond .lt 12, 3) := by decide +kernel
theorem dX8_isType_4 : decode cX8_isType 4 = .ok (.iload_n 0, 1) := by decide +kernel
theorem dX8_isType_5 : decode cX8_isType 5 = .ok (.iconst 2, 1) := by decide +kernel
theorem dX8_isType_6 : decode cX8_isType 6 = .ok (.if_icmp .gt 7, 3) := by decide +kernel
theorem dX8_isType_9 : decode cX8_isType 9 = .ok (.iconst 1, 1) := by decide +kernel
theorem dX8_isType_10 : decode cX8_isType 10 = .ok (.goto 4, 3) := by decide +kernel
theorem dX8_isType_13 : decode cX8_isType 13 = .ok (.iconst 0, 1) := by decide +kernel
theorem dX8_isType_14 : decode cX8_isType 14 = .ok (.ireturn, 1) := by decide +kernel
theorem dX8_isQuestion_0 : decode cX8_isQuestion 0 = .ok (.iload_n 0, 1) := by decide +kernel
theorem dX8_isQuestion_1 : decode cX8_isQuestion 1 = .ok (.invokestatic 97, 3) := by decide +kernel
theorem dX8_isQuestion_4 : decode cX8_isQuestion 4 = .ok (.ifCond .eq 14, 3) := by decide +kernel
theorem dX8_isQuestion_7 : decode cX8_isQuestion 7 = .ok (.iload_n 1, 1) := by decide +kernel
theorem dX8_isQuestion_8 : decode cX8_isQuestion 8 = .ok (.invokestatic 156, 3) := by decide +kernel
theorem dX8_isQuestion_11 : decode cX8_isQuestion 11 = .ok (.ifCond .eq 7, 3) := by decide +kernel
theorem dX8_isQuestion_14 : decode cX8_isQuestion 14 = .ok (.iconst 1, 1) := by decide +kernel
theorem dX8_isQuestion_15 : decode cX8_isQuestion 15 = .ok (.goto 4, 3) := by decide +kernel
theorem dX8_isQuestion_18 : decode cX8_isQuestion 18 = .ok (.iconst 0, 1) := by decide +kernel
theorem dX8_isQuestion_19 : decode cX8_isQuestion 19 = .ok (.ireturn, 1) := by decide +kernel
theorem dX8_isValue_0 : decode cX8_isValue 0 = .ok (.iload_n 0, 1) := by decide +kernel
theorem dX8_isValue_1 : decode cX8_isValue 1 = .ok (.invokestatic 156, 3) := by decide +kernel
theorem dX8_isValue_4 : decode cX8_isValue 4 = .ok (.ifCond .ne 5, 3) := by decide +kernel
theorem dX8_isValue_7 : decode cX8_isValue 7 = .ok (.iconst 0, 1) := by decide +kernel
theorem dX8_isValue_8 : decode cX8_isValue 8 = .ok (.ireturn, 1) := by decide +kernel
theorem dX8_isValue_9 : decode cX8_isValue 9 = .ok (.iload_n 0, 1) := by decide +kernel
theorem dX8_isValue_10 : decode cX8_isValue 10 = .ok (.iconst 1, 1) := by decide +kernel
theorem dX8_isValue_11 : decode cX8_isValue 11 = .ok (.if_icmp .ne 8, 3) := by decide +kernel
theorem dX8_isValue_14 : decode cX8_isValue 14 = .ok (.iload_n 1, 1) := by decide +kernel
theorem dX8_isValue_15 : decode cX8_isValue 15 = .ok (.invokestatic 97, 3) := by decide +kernel
theorem dX8_isValue_18 : decode cX8_isValue 18 = .ok (.ireturn, 1) := by decide +kernel
theorem dX8_isValue_19 : decode cX8_isValue 19 = .ok (.iload_n 1, 1) := by decide +kernel
theorem dX8_isValue_20 : decode cX8_isValue 20 = .ok (.ifCond .lt 24, 3) := by decide +kernel
theorem dX8_isValue_23 : decode cX8_isValue 23 = .ok (.iload_n 1, 1) := by decide +kernel
theorem dX8_isValue_24 : decode cX8_isValue 24 = .ok (.iload_n 0, 1) := by decide +kernel
theorem dX8_isValue_25 : decode cX8_isValue 25 = .ok (.ifCond .ne 9, 3) := by decide +kernel
theorem dX8_isValue_28 : decode cX8_isValue 28 = .ok (.sipush 255, 3) := by decide +kernel
theorem dX8_isValue_31 : decode cX8_isValue 31 = .ok (.goto 6, 3) := by decide +kernel
theorem dX8_isValue_34 : decode cX8_isValue 34 = .ok (.sipush 999, 3) := by decide +kernel
theorem dX8_isValue_37 : decode cX8_isValue 37 = .ok (.if_icmp .gt 7, 3) := by decide +kernel
theorem dX8_isValue_40 : decode cX8_isValue 40 = .ok (.iconst 1, 1) := by decide +kernel
theorem dX8_isValue_41 : decode cX8_isValue 41 = .ok (.goto 4, 3) := by decide +kernel
theorem dX8_isValue_44 : decode cX8_isValue 44 = .ok (.iconst 0, 1) := by decide +kernel
theorem dX8_isValue_45 : decode cX8_isValue 45 = .ok (.ireturn, 1) := by decide +kernel
