theorem dX9_source_20 : decode cX9_source 20 = .ok (.ireturn, 1) := by decide +kernel
theorem dX9_source_21 : decode cX9_source 21 = .ok (.aload_n 0, 1) := by decide +kernel
theorem dX9_source_22 : decode cX9_source 22 = .ok (.iload_n 1, 1) := by decide +kernel
theorem dX9_source_23 : decode cX9_source 23 = .ok (.iload_n 2, 1) := by decide +kernel
theorem dX9_source_24 : decode cX9_source 24 = .ok (.iload_n 3, 1) := by decide +kernel
theorem dX9_source_25 : decode cX9_source 25 = .ok (.iload 4, 2) := by decide +kernel
theorem dX9_source_27 : decode cX9_source 27 = .ok (.invokevirtual 142, 3) := by decide +kernel
theorem dX9_source_30 : decode cX9_source 30 = .ok (.ifCond .ge 8, 3) := by decide +kernel
theorem dX9_source_33 : decode cX9_source 33 = .ok (.bipush (-4), 2) := by decide +kernel
theorem dX9_source_35 : decode cX9_source 35 = .ok (.goto 7, 3) := by decide +kernel
theorem dX9_source_38 : decode cX9_source 38 = .ok (.aload_n 0, 1) := by decide +kernel
theorem dX9_source_39 : decode cX9_source 39 = .ok (.getfield 130, 3) := by decide +kernel
theorem dX9_source_42 : decode cX9_source 42 = .ok (.ireturn, 1) := by decide +kernel
theorem dX9_parts_0 : decode cX9_parts 0 = .ok (.iconst 0, 1) := by decide +kernel
theorem dX9_parts_1 : decode cX9_parts 1 = .ok (.istore 7, 2) := by decide +kernel
theorem dX9_parts_3 : decode cX9_parts 3 = .ok (.iconst 1, 1) := by decide +kernel
theorem dX9_parts_4 : decode cX9_parts 4 = .ok (.istore 8, 2) := by decide +kernel
theorem dX9_parts_6 : decode cX9_parts 6 = .ok (.iload 8, 2) := by decide +kernel
theorem dX9_parts_8 : decode cX9_parts 8 = .ok (.bipush 124, 2) := by decide +kernel
theorem dX9_parts_10 : decode cX9_parts 10 = .ok (.if_icmp .gt 53, 3) := by decide +kernel
theorem dX9_parts_13 : decode cX9_parts 13 = .ok (.iload 8, 2) := by decide +kernel
theorem dX9_parts_15 : decode cX9_parts 15 = .ok (.invokestatic 76, 3) := by decide +kernel
theorem dX9_parts_18 : decode cX9_parts 18 = .ok (.ifCond .eq 39, 3) := by decide +kernel
theorem dX9_parts_21 : decode cX9_parts 21 = .ok (.aload_n 0, 1) := by decide +kernel
theorem dX9_parts_22 : decode cX9_parts 22 = .ok (.iload_n 1, 1) := by decide +kernel
theorem dX9_parts_23 : decode cX9_parts 23 = .ok (.iload 8, 2) := by decide +kernel
theorem dX9_parts_25 : decode cX9_parts 25 = .ok (.iload_n 3, 1) := by decide +kernel
theorem dX9_parts_26 : decode cX9_parts 26 = .ok (.iload 4, 2) := by decide +kernel
theorem dX9_parts_28 : decode cX9_parts 28 = .ok (.invokevirtual 142, 3) := by decide +kernel
theorem dX9_parts_31 : decode cX9_parts 31 = .ok (.aload_n 0, 1) := by decide +kernel
theorem dX9_parts_32 : decode cX9_parts 32 = .ok (.iload_n 2, 1) := by decide +kernel
theorem dX9_parts_33 : decode cX9_parts 33 = .ok (.iload 8, 2) := by decide +kernel
theorem dX9_parts_35 : decode cX9_parts 35 = .ok (.iload_n 3, 1) := by decide +kernel
theorem dX9_parts_36 : decode cX9_parts 36 = .ok (.iload 5, 2) := by decide +kernel
theorem dX9_parts_38 : decode cX9_parts 38 = .ok (.invokevirtual 142, 3) := by decide +kernel
theorem dX9_parts_41 : decode cX9_parts 41 = .ok (.if_icmp .eq 16, 3) := by decide +kernel
theorem dX9_parts_44 : decode cX9_parts 44 = .ok (.iload 7, 2) := by decide +kernel
theorem dX9_parts_46 : decode cX9_parts 46 = .ok (.iload 6, 2) := by decide +kernel
theorem dX9_parts_48 : decode cX9_parts 48 = .ok (.if_icmp .ne 6, 3) := by decide +kernel
theorem dX9_parts_51 : decode cX9_parts 51 = .ok (.iload 8, 2) := by decide +kernel
theorem dX9_parts_53 : decode cX9_parts 53 = .ok (.ireturn, 1) := by decide +kernel
theorem dX9_parts_54 : decode cX9_parts 54 = .ok (.iinc 7 1, 3) := by decide +kernel
theorem dX9_parts_57 : decode cX9_parts 57 = .ok (.iinc 8 1, 3) := by decide +kernel
theorem dX9_parts_60 : decode cX9_parts 60 = .ok (.goto (-54), 3) := by decide +kernel
theorem dX9_parts_63 : decode cX9_parts 63 = .ok (.iload 6, 2) := by decide +kernel
theorem dX9_parts_65 : decode cX9_parts 65 = .ok (.ifCond .ge 8, 3) := by decide +kernel
theorem dX9_parts_68 : decode cX9_parts 68 = .ok (.iload 7, 2) := by decide +kernel
theorem dX9_parts_70 : decode cX9_parts 70 = .ok (.goto 5, 3) := by decide +kernel
theorem dX9_parts_73 : decode cX9_parts 73 = .ok (.bipush (-4), 2) := by decide +kernel
theorem dX9_parts_75 : decode cX9_parts 75 = .ok (.ireturn, 1) := by decide +kernel
theorem dX9_differences_0 : decode cX9_differences 0 = .ok (.iload_n 1, 1) := by decide +kernel
theorem dX9_differences_1 : decode cX9_differences 1 = .ok (.invokestatic 73, 3) := by decide +kernel
theorem dX9_differences_4 : decode cX9_differences 4 = .ok (.ifCond .eq 27, 3) := by decide +kernel
theorem dX9_differences_7 : decode cX9_differences 7 = .ok (.iload_n 2, 1) := by decide +kernel
theorem dX9_differences_8 : decode cX9_differences 8 = .ok (.invokestatic 113, 3) := by decide +kernel
theorem dX9_differences_11 : decode cX9_differences 11 = .ok (.ifCond .eq 20, 3) := by decide +kernel
theorem dX9_differences_14 : decode cX9_differences 14 = .ok (.aload_n 0, 1) := by decide +kernel
theorem dX9_differences_15 : decode cX9_differences 15 = .ok (.iload_n 3, 1) := by decide +kernel
theorem dX9_differences_16 : decode cX9_differences 16 = .ok (.invokevirtual 64, 3) := by decide +kernel
theorem dX9_differences_19 : decode cX9_differences 19 = .ok (.ifCond .eq 12, 3) := by decide +kernel
theorem dX9_differences_22 : decode cX9_differences 22 = .ok (.aload_n 0, 1) := by decide +kernel
theorem dX9_differences_23 : decode cX9_differences 23 = .ok (.iload 4, 2) := by decide +kernel
theorem dX9_differences_25 : decode cX9_differences 25 = .ok (.invokevirtual 64, 3) := by decide +kernel
theorem dX9_differences_28 : decode cX9_differences 28 = .ok (.ifCond .ne 5, 3) := by decide +kernel
theorem dX9_differences_31 : decode cX9_differences 31 = .ok (.iconst (-1), 1) := by decide +kernel
theorem dX9_differences_32 : decode cX9_differences 32 = .ok (.ireturn, 1) := by decide +kernel
theorem dX9_differences_33 : decode cX9_differences 33 = .ok (.aload_n 0, 1) := by decide +kernel
theorem dX9_differences_34 : decode cX9_differences 34 = .ok (.iload_n 1, 1) := by decide +kernel
theorem dX9_differences_35 : decode cX9_differences 35 = .ok (.iload_n 1, 1) := by decide +kernel
theorem dX9_differences_36 : decode cX9_differences 36 = .ok (.iload_n 2, 1) := by decide +kernel
theorem dX9_differences_37 : decode cX9_differences 37 = .ok (.iload_n 3, 1) := by decide +kernel
theorem dX9_differences_38 : decode cX9_differences 38 = .ok (.iload 4, 2) := by decide +kernel
theorem dX9_differences_40 : decode cX9_differences 40 = .ok (.iconst (-1), 1) := by decide +kernel
theorem dX9_differences_41 : decode cX9_differences 41 = .ok (.invokevirtual 145, 3) := by decide +kernel
theorem dX9_differences_44 : decode cX9_differences 44 = .ok (.ireturn, 1) := by decide +kernel
theorem dX9_difference_0 : decode cX9_difference 0 = .ok (.iload_n 1, 1) := by decide +kernel
theorem dX9_difference_1 : decode cX9_difference 1 = .ok (.invokestatic 73, 3) := by decide +kernel
theorem dX9_difference_4 : decode cX9_difference 4 = .ok (.ifCond .eq 32, 3) := by decide +kernel
theorem dX9_difference_7 : decode cX9_difference 7 = .ok (.iload_n 2, 1) := by decide +kernel
theorem dX9_difference_8 : decode cX9_difference 8 = .ok (.invokestatic 113, 3) := by decide +kernel
theorem dX9_difference_11 : decode cX9_difference 11 = .ok (.ifCond .eq 25, 3) := by decide +kernel
theorem dX9_difference_14 : decode cX9_difference 14 = .ok (.aload_n 0, 1) := by decide +kernel
theorem dX9_difference_15 : decode cX9_difference 15 = .ok (.iload_n 3, 1) := by decide +kernel
theorem dX9_difference_16 : decode cX9_difference 16 = .ok (.invokevirtual 64, 3) := by decide +kernel
theorem dX9_difference_19 : decode cX9_difference 19 = .ok (.ifCond .eq 17, 3) := by decide +kernel
theorem dX9_difference_22 : decode cX9_difference 22 = .ok (.aload_n 0, 1) := by decide +kernel
theorem dX9_difference_23 : decode cX9_difference 23 = .ok (.iload 4, 2) := by decide +kernel
theorem dX9_difference_25 : decode cX9_difference 25 = .ok (.invokevirtual 64, 3) := by decide +kernel
theorem dX9_difference_28 : decode cX9_difference 28 = .ok (.ifCond .eq 8, 3) := by decide +kernel
theorem dX9_difference_31 : decode cX9_difference 31 = .ok (.iload 5, 2) := by decide +kernel
theorem dX9_difference_33 : decode cX9_difference 33 = .ok (.ifCond .ge 5, 3) := by decide +kernel
theorem dX9_difference_36 : decode cX9_difference 36 = .ok (.iconst (-1), 1) := by decide +kernel
theorem dX9_difference_37 : decode cX9_difference 37 = .ok (.ireturn, 1) := by decide +kernel
theorem dX9_difference_38 : decode cX9_difference 38 = .ok (.aload_n 0, 1) := by decide +kernel
theorem dX9_difference_39 : decode cX9_difference 39 = .ok (.iload_n 1, 1) := by decide +kernel
theorem dX9_difference_40 : decode cX9_difference 40 = .ok (.iload_n 1, 1) := by decide +kernel
theorem dX9_difference_41 : decode cX9_difference 41 = .ok (.iload_n 2, 1) := by decide +kernel
theorem dX9_difference_42 : decode cX9_difference 42 = .ok (.iload_n 3, 1) := by decide +kernel
theorem dX9_difference_43 : decode cX9_difference 43 = .ok (.iload 4, 2) := by decide +kernel
theorem dX9_difference_45 : decode cX9_difference 45 = .ok (.iload 5, 2) := by decide +kernel
theorem dX9_difference_47 : decode cX9_difference 47 = .ok (.invokevirtual 145, 3) := by decide +kernel
theorem dX9_difference_50 : decode cX9_difference 50 = .ok (.ireturn, 1) := by decide +kernel
theorem dX9_split_0 : decode cX9_split 0 = .ok (.iload_n 1, 1) := by decide +kernel
theorem dX9_split_1 : decode cX9_split 1 = .ok (.invokestatic 73, 3) := by decide +kernel
theorem dX9_split_4 : decode cX9_split 4 = .ok (.ifCond .eq 26, 3) := by decide +kernel
theorem dX9_split_7 : decode cX9_split 7 = .ok (.iload_n 2, 1) := by decide +kernel
theorem dX9_split_8 : decode cX9_split 8 = .ok (.invokestatic 73, 3) := by decide +kernel
theorem dX9_split_11 : decode cX9_split 11 = .ok (.ifCond .eq 19, 3) := by decide +kernel
theorem dX9_split_14 : decode cX9_split 14 = .ok (.iload_n 3, 1) := by decide +kernel
theorem dX9_split_15 : decode cX9_split 15 = .ok (.invokestatic 113, 3) := by decide +kernel
theorem dX9_split_18 : decode cX9_split 18 = .ok (.ifCond .eq 12, 3) := by decide +kernel
theorem dX9_split_21 : decode cX9_split 21 = .ok (.aload_n 0, 1) := by decide +kernel
theorem dX9_split_22 : decode cX9_split 22 = .ok (.iload 4, 2) := by decide +kernel
theorem dX9_split_24 : decode cX9_split 24 = .ok (.invokevirtual 64, 3) := by decide +kernel
theorem dX9_split_27 : decode cX9_split 27 = .ok (.ifCond .ne 5, 3) := by decide +kernel
theorem dX9_split_30 : decode cX9_split 30 = .ok (.iconst (-1), 1) := by decide +kernel
theorem dX9_split_31 : decode cX9_split 31 = .ok (.ireturn, 1) := by decide +kernel
theorem dX9_split_32 : decode cX9_split 32 = .ok (.aload_n 0, 1) := by decide +kernel
theorem dX9_split_33 : decode cX9_split 33 = .ok (.iload_n 1, 1) := by decide +kernel
theorem dX9_split_34 : decode cX9_split 34 = .ok (.iload_n 2, 1) := by decide +kernel
theorem dX9_split_35 : decode cX9_split 35 = .ok (.iload_n 3, 1) := by decide +kernel
theorem dX9_split_36 : decode cX9_split 36 = .ok (.iload 4, 2) := by decide +kernel
theorem dX9_split_38 : decode cX9_split 38 = .ok (.iload 4, 2) := by decide +kernel
theorem dX9_split_40 : decode cX9_split 40 = .ok (.iconst (-1), 1) := by decide +kernel
theorem dX9_split_41 : decode cX9_split 41 = .ok (.invokevirtual 145, 3) := by decide +kernel
theorem dX9_split_44 : decode cX9_split 44 = .ok (.ireturn, 1) := by decide +kernel
theorem dX9_latestEvent_0 : decode cX9_latestEvent 0 = .ok (.iconst 0, 1) := by decide +kernel
theorem dX9_latestEvent_1 : decode cX9_latestEvent 1 = .ok (.istore_n 2, 1) := by decide +kernel
theorem dX9_latestEvent_2 : decode cX9_latestEvent 2 = .ok (.iconst 0, 1) := by decide +kernel
theorem dX9_latestEvent_3 : decode cX9_latestEvent 3 = .ok (.istore_n 3, 1) := by decide +kernel
theorem dX9_latestEvent_4 : decode cX9_latestEvent 4 = .ok (.iload_n 3, 1) := by decide +kernel
theorem dX9_latestEvent_5 : decode cX9_latestEvent 5 = .ok (.aload_n 0, 1) := by decide +kernel
theorem dX9_latestEvent_6 : decode cX9_latestEvent 6 = .ok (.getfield 70, 3) := by decide +kernel
theorem dX9_latestEvent_9 : decode cX9_latestEvent 9 = .ok (.if_icmp .ge 71, 3) := by decide +kernel
theorem dX9_latestEvent_12 : decode cX9_latestEvent 12 = .ok (.aload_n 0, 1) := by decide +kernel
theorem dX9_latestEvent_13 : decode cX9_latestEvent 13 = .ok (.getfield 13, 3) := by decide +kernel
theorem dX9_latestEvent_16 : decode cX9_latestEvent 16 = .ok (.iconst 4, 1) := by decide +kernel
theorem dX9_latestEvent_17 : decode cX9_latestEvent 17 = .ok (.iload_n 3, 1) := by decide +kernel
theorem dX9_latestEvent_18 : decode cX9_latestEvent 18 = .ok (.imul, 1) := by decide +kernel
theorem dX9_latestEvent_19 : decode cX9_latestEvent 19 = .ok (.iconst 2, 1) := by decide +kernel
theorem dX9_latestEvent_20 : decode cX9_latestEvent 20 = .ok (.iadd, 1) := by decide +kernel
theorem dX9_latestEvent_21 : decode cX9_latestEvent 21 = .ok (.iaload, 1) := by decide +kernel
theorem dX9_latestEvent_22 : decode cX9_latestEvent 22 = .ok (.istore 4, 2) := by decide +kernel
theorem dX9_latestEvent_24 : decode cX9_latestEvent 24 = .ok (.aload_n 0, 1) := by decide +kernel
theorem dX9_latestEvent_25 : decode cX9_latestEvent 25 = .ok (.getfield 13, 3) := by decide +kernel
theorem dX9_latestEvent_28 : decode cX9_latestEvent 28 = .ok (.iconst 4, 1) := by decide +kernel
theorem dX9_latestEvent_29 : decode cX9_latestEvent 29 = .ok (.iload_n 3, 1) := by decide +kernel
theorem dX9_latestEvent_30 : decode cX9_latestEvent 30 = .ok (.imul, 1) := by decide +kernel
theorem dX9_latestEvent_31 : decode cX9_latestEvent 31 = .ok (.iconst 3, 1) := by decide +kernel
theorem dX9_latestEvent_32 : decode cX9_latestEvent 32 = .ok (.iadd, 1) := by decide +kernel
theorem dX9_latestEvent_33 : decode cX9_latestEvent 33 = .ok (.iaload, 1) := by decide +kernel
theorem dX9_latestEvent_34 : decode cX9_latestEvent 34 = .ok (.istore 5, 2) := by decide +kernel
theorem dX9_latestEvent_36 : decode cX9_latestEvent 36 = .ok (.iload 4, 2) := by decide +kernel
theorem dX9_latestEvent_38 : decode cX9_latestEvent 38 = .ok (.iload_n 1, 1) := by decide +kernel
theorem dX9_latestEvent_39 : decode cX9_latestEvent 39 = .ok (.if_icmp .gt 14, 3) := by decide +kernel
theorem dX9_latestEvent_42 : decode cX9_latestEvent 42 = .ok (.iload 4, 2) := by decide +kernel
theorem dX9_latestEvent_44 : decode cX9_latestEvent 44 = .ok (.iload_n 2, 1) := by decide +kernel
theorem dX9_latestEvent_45 : decode cX9_latestEvent 45 = .ok (.if_icmp .le 8, 3) := by decide +kernel
theorem dX9_latestEvent_48 : decode cX9_latestEvent 48 = .ok (.iload 4, 2) := by decide +kernel
theorem dX9_latestEvent_50 : decode cX9_latestEvent 50 = .ok (.goto 4, 3) := by decide +kernel
theorem dX9_latestEvent_53 : decode cX9_latestEvent 53 = .ok (.iload_n 2, 1) := by decide +kernel
theorem dX9_latestEvent_54 : decode cX9_latestEvent 54 = .ok (.istore_n 2, 1) := by decide +kernel
theorem dX9_latestEvent_55 : decode cX9_latestEvent 55 = .ok (.iload 5, 2) := by decide +kernel
theorem dX9_latestEvent_57 : decode cX9_latestEvent 57 = .ok (.iload_n 1, 1) := by decide +kernel
theorem dX9_latestEvent_58 : decode cX9_latestEvent 58 = .ok (.if_icmp .gt 14, 3) := by decide +kernel
theorem dX9_latestEvent_61 : decode cX9_latestEvent 61 = .ok (.iload 5, 2) := by decide +kernel
theorem dX9_latestEvent_63 : decode cX9_latestEvent 63 = .ok (.iload_n 2, 1) := by decide +kernel
theorem dX9_latestEvent_64 : decode cX9_latestEvent 64 = .ok (.if_icmp .le 8, 3) := by decide +kernel
theorem dX9_latestEvent_67 : decode cX9_latestEvent 67 = .ok (.iload 5, 2) := by decide +kernel
theorem dX9_latestEvent_69 : decode cX9_latestEvent 69 = .ok (.goto 4, 3) := by decide +kernel
theorem dX9_latestEvent_72 : decode cX9_latestEvent 72 = .ok (.iload_n 2, 1) := by decide +kernel
theorem dX9_latestEvent_73 : decode cX9_latestEvent 73 = .ok (.istore_n 2, 1) := by decide +kernel
theorem dX9_latestEvent_74 : decode cX9_latestEvent 74 = .ok (.iinc 3 1, 3) := by decide +kernel
theorem dX9_latestEvent_77 : decode cX9_latestEvent 77 = .ok (.goto (-73), 3) := by decide +kernel
theorem dX9_latestEvent_80 : decode cX9_latestEvent 80 = .ok (.iconst 0, 1) := by decide +kernel
theorem dX9_latestEvent_81 : decode cX9_latestEvent 81 = .ok (.istore_n 3, 1) := by decide +kernel
theorem dX9_latestEvent_82 : decode cX9_latestEvent 82 = .ok (.iload_n 3, 1) := by decide +kernel
theorem dX9_latestEvent_83 : decode cX9_latestEvent 83 = .ok (.aload_n 0, 1) := by decide +kernel
theorem dX9_latestEvent_84 : decode cX9_latestEvent 84 = .ok (.getfield 91, 3) := by decide +kernel
theorem dX9_latestEvent_87 : decode cX9_latestEvent 87 = .ok (.if_icmp .ge 36, 3) := by decide +kernel
theorem dX9_latestEvent_90 : decode cX9_latestEvent 90 = .ok (.aload_n 0, 1) := by decide +kernel
theorem dX9_latestEvent_91 : decode cX9_latestEvent 91 = .ok (.iload_n 3, 1) := by decide +kernel
theorem dX9_latestEvent_92 : decode cX9_latestEvent 92 = .ok (.iconst 1, 1) := by decide +kernel
theorem dX9_latestEvent_93 : decode cX9_latestEvent 93 = .ok (.invokevirtual 100, 3) := by decide +kernel
theorem dX9_latestEvent_96 : decode cX9_latestEvent 96 = .ok (.istore 4, 2) := by decide +kernel
theorem dX9_latestEvent_98 : decode cX9_latestEvent 98 = .ok (.iload 4, 2) := by decide +kernel
theorem dX9_latestEvent_100 : decode cX9_latestEvent 100 = .ok (.iload_n 1, 1) := by decide +kernel
theorem dX9_latestEvent_101 : decode cX9_latestEvent 101 = .ok (.if_icmp .gt 14, 3) := by decide +kernel
theorem dX9_latestEvent_104 : decode cX9_latestEvent 104 = .ok (.iload 4, 2) := by decide +kernel
theorem dX9_latestEvent_106 : decode cX9_latestEvent 106 = .ok (.iload_n 2, 1) := by decide +kernel
theorem dX9_latestEvent_107 : decode cX9_latestEvent 107 = .ok (.if_icmp .le 8, 3) := by decide +kernel
theorem dX9_latestEvent_110 : decode cX9_latestEvent 110 = .ok (.iload 4, 2) := by decide +kernel
theorem dX9_latestEvent_112 : decode cX9_latestEvent 112 = .ok (.goto 4, 3) := by decide +kernel
theorem dX9_latestEvent_115 : decode cX9_latestEvent 115 = .ok (.iload_n 2, 1) := by decide +kernel
theorem dX9_latestEvent_116 : decode cX9_latestEvent 116 = .ok (.istore_n 2, 1) := by decide +kernel
theorem dX9_latestEvent_117 : decode cX9_latestEvent 117 = .ok (.iinc 3 1, 3) := by decide +kernel
theorem dX9_latestEvent_120 : decode cX9_latestEvent 120 = .ok (.goto (-38), 3) := by decide +kernel
theorem dX9_latestEvent_123 : decode cX9_latestEvent 123 = .ok (.iload_n 2, 1) := by decide +kernel
theorem dX9_latestEvent_124 : decode cX9_latestEvent 124 = .ok (.ireturn, 1) := by decide +kernel
theorem dX9_since_0 : decode cX9_since 0 = .ok (.aload_n 0, 1) := by decide +kernel
theorem dX9_since_1 : decode cX9_since 1 = .ok (.iload_n 1, 1) := by decide +kernel
theorem dX9_since_2 : decode cX9_since 2 = .ok (.iload_n 2, 1) := by decide +kernel
theorem dX9_since_3 : decode cX9_since 3 = .ok (.iload_n 3, 1) := by decide +kernel
theorem dX9_since_4 : decode cX9_since 4 = .ok (.invokevirtual 139, 3) := by decide +kernel
theorem dX9_since_7 : decode cX9_since 7 = .ok (.ifCond .ne 5, 3) := by decide +kernel
theorem dX9_since_10 : decode cX9_since 10 = .ok (.iconst (-1), 1) := by decide +kernel
theorem dX9_since_11 : decode cX9_since 11 = .ok (.ireturn, 1) := by decide +kernel
theorem dX9_since_12 : decode cX9_since 12 = .ok (.aload_n 0, 1) := by decide +kernel
theorem dX9_since_13 : decode cX9_since 13 = .ok (.iload_n 1, 1) := by decide +kernel
theorem dX9_since_14 : decode cX9_since 14 = .ok (.iload_n 2, 1) := by decide +kernel
theorem dX9_since_15 : decode cX9_since 15 = .ok (.iload_n 3, 1) := by decide +kernel
theorem dX9_since_16 : decode cX9_since 16 = .ok (.aload_n 0, 1) := by decide +kernel
theorem dX9_since_17 : decode cX9_since 17 = .ok (.getfield 32, 3) := by decide +kernel
theorem dX9_since_20 : decode cX9_since 20 = .ok (.invokevirtual 142, 3) := by decide +kernel
theorem dX9_since_23 : decode cX9_since 23 = .ok (.istore 4, 2) := by decide +kernel
theorem dX9_since_25 : decode cX9_since 25 = .ok (.aload_n 0, 1) := by decide +kernel
theorem dX9_since_26 : decode cX9_since 26 = .ok (.aload_n 0, 1) := by decide +kernel
theorem dX9_since_27 : decode cX9_since 27 = .ok (.getfield 32, 3) := by decide +kernel
theorem dX9_since_30 : decode cX9_since 30 = .ok (.invokevirtual 149, 3) := by decide +kernel
theorem dX9_since_33 : decode cX9_since 33 = .ok (.istore 5, 2) := by decide +kernel
theorem dX9_since_35 : decode cX9_since 35 = .ok (.iload 5, 2) := by decide +kernel
theorem dX9_since_37 : decode cX9_since 37 = .ok (.ifCond .le 32, 3) := by decide +kernel
theorem dX9_since_40 : decode cX9_since 40 = .ok (.aload_n 0, 1) := by decide +kernel
theorem dX9_since_41 : decode cX9_since 41 = .ok (.iload_n 1, 1) := by decide +kernel
theorem dX9_since_42 : decode cX9_since 42 = .ok (.iload_n 2, 1) := by decide +kernel
theorem dX9_since_43 : decode cX9_since 43 = .ok (.iload_n 3, 1) := by decide +kernel
theorem dX9_since_44 : decode cX9_since 44 = .ok (.iload 5, 2) := by decide +kernel
theorem dX9_since_46 : decode cX9_since 46 = .ok (.iconst 1, 1) := by decide +kernel
theorem dX9_since_47 : decode cX9_since 47 = .ok (.isub, 1) := by decide +kernel
theorem dX9_since_48 : decode cX9_since 48 = .ok (.invokevirtual 142, 3) := by decide +kernel
theorem dX9_since_51 : decode cX9_since 51 = .ok (.iload 4, 2) := by decide +kernel
theorem dX9_since_53 : decode cX9_since 53 = .ok (.if_icmp .ne 16, 3) := by decide +kernel
theorem dX9_since_56 : decode cX9_since 56 = .ok (.aload_n 0, 1) := by decide +kernel
theorem dX9_since_57 : decode cX9_since 57 = .ok (.iload 5, 2) := by decide +kernel
theorem dX9_since_59 : decode cX9_since 59 = .ok (.iconst 1, 1) := by decide +kernel
theorem dX9_since_60 : decode cX9_since 60 = .ok (.isub, 1) := by decide +kernel
theorem dX9_since_61 : decode cX9_since 61 = .ok (.invokevirtual 149, 3) := by decide +kernel
theorem dX9_since_64 : decode cX9_since 64 = .ok (.istore 5, 2) := by decide +kernel
theorem dX9_since_66 : decode cX9_since 66 = .ok (.goto (-31), 3) := by decide +kernel
theorem dX9_since_69 : decode cX9_since 69 = .ok (.iload 5, 2) := by decide +kernel
theorem dX9_since_71 : decode cX9_since 71 = .ok (.ireturn, 1) := by decide +kernel
theorem dX9_seenBy_0 : decode cX9_seenBy 0 = .ok (.aload_n 0, 1) := by decide +kernel
theorem dX9_seenBy_1 : decode cX9_seenBy 1 = .ok (.iconst 0, 1) := by decide +kernel
theorem dX9_seenBy_2 : decode cX9_seenBy 2 = .ok (.iload_n 1, 1) := by decide +kernel
theorem dX9_seenBy_3 : decode cX9_seenBy 3 = .ok (.iload_n 2, 1) := by decide +kernel
theorem dX9_seenBy_4 : decode cX9_seenBy 4 = .ok (.invokevirtual 139, 3) := by decide +kernel
theorem dX9_seenBy_7 : decode cX9_seenBy 7 = .ok (.ifCond .eq 12, 3) := by decide +kernel
theorem dX9_seenBy_10 : decode cX9_seenBy 10 = .ok (.aload_n 0, 1) := by decide +kernel
theorem dX9_seenBy_11 : decode cX9_seenBy 11 = .ok (.iload 4, 2) := by decide +kernel
theorem dX9_seenBy_13 : decode cX9_seenBy 13 = .ok (.invokevirtual 64, 3) := by decide +kernel
theorem dX9_seenBy_16 : decode cX9_seenBy 16 = .ok (.ifCond .ne 5, 3) := by decide +kernel
theorem dX9_seenBy_19 : decode cX9_seenBy 19 = .ok (.iconst (-1), 1) := by decide +kernel
theorem dX9_seenBy_20 : decode cX9_seenBy 20 = .ok (.ireturn, 1) := by decide +kernel
theorem dX9_seenBy_21 : decode cX9_seenBy 21 = .ok (.iconst 0, 1) := by decide +kernel
theorem dX9_seenBy_22 : decode cX9_seenBy 22 = .ok (.istore 5, 2) := by decide +kernel
theorem dX9_seenBy_24 : decode cX9_seenBy 24 = .ok (.iconst 0, 1) := by decide +kernel
theorem dX9_seenBy_25 : decode cX9_seenBy 25 = .ok (.istore 6, 2) := by decide +kernel
theorem dX9_seenBy_27 : decode cX9_seenBy 27 = .ok (.iload 6, 2) := by decide +kernel
theorem dX9_seenBy_29 : decode cX9_seenBy 29 = .ok (.iconst 4, 1) := by decide +kernel
theorem dX9_seenBy_30 : decode cX9_seenBy 30 = .ok (.if_icmp .ge 36, 3) := by decide +kernel
theorem dX9_seenBy_33 : decode cX9_seenBy 33 = .ok (.iload 5, 2) := by decide +kernel
theorem dX9_seenBy_35 : decode cX9_seenBy 35 = .ok (.aload_n 0, 1) := by decide +kernel
theorem dX9_seenBy_36 : decode cX9_seenBy 36 = .ok (.iload 6, 2) := by decide +kernel
theorem dX9_seenBy_38 : decode cX9_seenBy 38 = .ok (.iload_n 1, 1) := by decide +kernel
theorem dX9_seenBy_39 : decode cX9_seenBy 39 = .ok (.iload_n 2, 1) := by decide +kernel
theorem dX9_seenBy_40 : decode cX9_seenBy 40 = .ok (.iload 4, 2) := by decide +kernel
theorem dX9_seenBy_42 : decode cX9_seenBy 42 = .ok (.invokevirtual 142, 3) := by decide +kernel
theorem dX9_seenBy_45 : decode cX9_seenBy 45 = .ok (.iload_n 3, 1) := by decide +kernel
theorem dX9_seenBy_46 : decode cX9_seenBy 46 = .ok (.if_icmp .ne 10, 3) := by decide +kernel
theorem dX9_seenBy_49 : decode cX9_seenBy 49 = .ok (.iconst 1, 1) := by decide +kernel
theorem dX9_seenBy_50 : decode cX9_seenBy 50 = .ok (.iload 6, 2) := by decide +kernel
theorem dX9_seenBy_52 : decode cX9_seenBy 52 = .ok (.ishl, 1) := by decide +kernel
theorem dX9_seenBy_53 : decode cX9_seenBy 53 = .ok (.goto 4, 3) := by decide +kernel
theorem dX9_seenBy_56 : decode cX9_seenBy 56 = .ok (.iconst 0, 1) := by decide +kernel
theorem dX9_seenBy_57 : decode cX9_seenBy 57 = .ok (.ior, 1) := by decide +kernel
theorem dX9_seenBy_58 : decode cX9_seenBy 58 = .ok (.istore 5, 2) := by decide +kernel
theorem dX9_seenBy_60 : decode cX9_seenBy 60 = .ok (.iinc 6 1, 3) := by decide +kernel
theorem dX9_seenBy_63 : decode cX9_seenBy 63 = .ok (.goto (-36), 3) := by decide +kernel
theorem dX9_seenBy_66 : decode cX9_seenBy 66 = .ok (.iconst 0, 1) := by decide +kernel
theorem dX9_seenBy_67 : decode cX9_seenBy 67 = .ok (.istore 6, 2) := by decide +kernel
theorem dX9_seenBy_69 : decode cX9_seenBy 69 = .ok (.iconst 0, 1) := by decide +kernel
theorem dX9_seenBy_70 : decode cX9_seenBy 70 = .ok (.istore 7, 2) := by decide +kernel
theorem dX9_seenBy_72 : decode cX9_seenBy 72 = .ok (.iload 7, 2) := by decide +kernel
theorem dX9_seenBy_74 : decode cX9_seenBy 74 = .ok (.sipush 256, 3) := by decide +kernel
theorem dX9_seenBy_77 : decode cX9_seenBy 77 = .ok (.if_icmp .ge 27, 3) := by decide +kernel
theorem dX9_seenBy_80 : decode cX9_seenBy 80 = .ok (.iload 6, 2) := by decide +kernel
theorem dX9_seenBy_82 : decode cX9_seenBy 82 = .ok (.iload 5, 2) := by decide +kernel
theorem dX9_seenBy_84 : decode cX9_seenBy 84 = .ok (.aload_n 0, 1) := by decide +kernel
theorem dX9_seenBy_85 : decode cX9_seenBy 85 = .ok (.iload 7, 2) := by decide +kernel
theorem dX9_seenBy_87 : decode cX9_seenBy 87 = .ok (.iload 4, 2) := by decide +kernel
theorem dX9_seenBy_89 : decode cX9_seenBy 89 = .ok (.invokevirtual 67, 3) := by decide +kernel
theorem dX9_seenBy_92 : decode cX9_seenBy 92 = .ok (.ishr, 1) := by decide +kernel
theorem dX9_seenBy_93 : decode cX9_seenBy 93 = .ok (.iconst 1, 1) := by decide +kernel
theorem dX9_seenBy_94 : decode cX9_seenBy 94 = .ok (.iand, 1) := by decide +kernel
theorem dX9_seenBy_95 : decode cX9_seenBy 95 = .ok (.iadd, 1) := by decide +kernel
theorem dX9_seenBy_96 : decode cX9_seenBy 96 = .ok (.istore 6, 2) := by decide +kernel
theorem dX9_seenBy_98 : decode cX9_seenBy 98 = .ok (.iinc 7 1, 3) := by decide +kernel
theorem dX9_seenBy_101 : decode cX9_seenBy 101 = .ok (.goto (-29), 3) := by decide +kernel
theorem dX9_seenBy_104 : decode cX9_seenBy 104 = .ok (.iload 6, 2) := by decide +kernel
theorem dX9_seenBy_106 : decode cX9_seenBy 106 = .ok (.ireturn, 1) := by decide +kernel
theorem dX9_setKeeping_0 : decode cX9_setKeeping 0 = .ok (.iload_n 1, 1) := by decide +kernel
theorem dX9_setKeeping_1 : decode cX9_setKeeping 1 = .ok (.iconst 0, 1) := by decide +kernel
theorem dX9_setKeeping_2 : decode cX9_setKeeping 2 = .ok (.bipush 100, 2) := by decide +kernel
theorem dX9_setKeeping_4 : decode cX9_setKeeping 4 = .ok (.invokestatic 35, 3) := by decide +kernel
theorem dX9_setKeeping_7 : decode cX9_setKeeping 7 = .ok (.ifCond .ne 5, 3) := by decide +kernel
theorem dX9_setKeeping_10 : decode cX9_setKeeping 10 = .ok (.iconst (-1), 1) := by decide +kernel
theorem dX9_setKeeping_11 : decode cX9_setKeeping 11 = .ok (.ireturn, 1) := by decide +kernel
theorem dX9_setKeeping_12 : decode cX9_setKeeping 12 = .ok (.aload_n 0, 1) := by decide +kernel
theorem dX9_setKeeping_13 : decode cX9_setKeeping 13 = .ok (.getfield 22, 3) := by decide +kernel
theorem dX9_setKeeping_16 : decode cX9_setKeeping 16 = .ok (.istore_n 2, 1) := by decide +kernel
theorem dX9_setKeeping_17 : decode cX9_setKeeping 17 = .ok (.aload_n 0, 1) := by decide +kernel
theorem dX9_setKeeping_18 : decode cX9_setKeeping 18 = .ok (.iload_n 1, 1) := by decide +kernel
theorem dX9_setKeeping_19 : decode cX9_setKeeping 19 = .ok (.putfield 22, 3) := by decide +kernel
theorem dX9_setKeeping_22 : decode cX9_setKeeping 22 = .ok (.iload_n 2, 1) := by decide +kernel
theorem dX9_setKeeping_23 : decode cX9_setKeeping 23 = .ok (.ireturn, 1) := by decide +kernel
theorem dX9_isYoung_0 : decode cX9_isYoung 0 = .ok (.aload_n 0, 1) := by decide +kernel
theorem dX9_isYoung_1 : decode cX9_isYoung 1 = .ok (.getfield 32, 3) := by decide +kernel
theorem dX9_isYoung_4 : decode cX9_isYoung 4 = .ok (.aload_n 0, 1) := by decide +kernel
theorem dX9_isYoung_5 : decode cX9_isYoung 5 = .ok (.getfield 19, 3) := by decide +kernel
theorem dX9_isYoung_8 : decode cX9_isYoung 8 = .ok (.iconst 5, 1) := by decide +kernel
theorem dX9_isYoung_9 : decode cX9_isYoung 9 = .ok (.iload_n 1, 1) := by decide +kernel
theorem dX9_isYoung_10 : decode cX9_isYoung 10 = .ok (.imul, 1) := by decide +kernel
theorem dX9_isYoung_11 : decode cX9_isYoung 11 = .ok (.iconst 4, 1) := by decide +kernel
theorem dX9_isYoung_12 : decode cX9_isYoung 12 = .ok (.iadd, 1) := by decide +kernel
theorem dX9_isYoung_13 : decode cX9_isYoung 13 = .ok (.iaload, 1) := by decide +kernel
theorem dX9_isYoung_14 : decode cX9_isYoung 14 = .ok (.isub, 1) := by decide +kernel
theorem dX9_isYoung_15 : decode cX9_isYoung 15 = .ok (.aload_n 0, 1) := by decide +kernel
theorem dX9_isYoung_16 : decode cX9_isYoung 16 = .ok (.getfield 22, 3) := by decide +kernel
theorem dX9_isYoung_19 : decode cX9_isYoung 19 = .ok (.if_icmp .gt 7, 3) := by decide +kernel
theorem dX9_isYoung_22 : decode cX9_isYoung 22 = .ok (.iconst 1, 1) := by decide +kernel
theorem dX9_isYoung_23 : decode cX9_isYoung 23 = .ok (.goto 4, 3) := by decide +kernel
theorem dX9_isYoung_26 : decode cX9_isYoung 26 = .ok (.iconst 0, 1) := by decide +kernel
theorem dX9_isYoung_27 : decode cX9_isYoung 27 = .ok (.ireturn, 1) := by decide +kernel
theorem dX9_drops_0 : decode cX9_drops 0 = .ok (.aload_n 0, 1) := by decide +kernel
theorem dX9_drops_1 : decode cX9_drops 1 = .ok (.dup, 1) := by decide +kernel
theorem dX9_drops_2 : decode cX9_drops 2 = .ok (.getfield 94, 3) := by decide +kernel
theorem dX9_drops_5 : decode cX9_drops 5 = .ok (.iconst 1, 1) := by decide +kernel
theorem dX9_drops_6 : decode cX9_drops 6 = .ok (.isub, 1) := by decide +kernel
theorem dX9_drops_7 : decode cX9_drops 7 = .ok (.putfield 94, 3) := by decide +kernel
theorem dX9_drops_10 : decode cX9_drops 10 = .ok (.iconst 5, 1) := by decide +kernel
theorem dX9_drops_11 : decode cX9_drops 11 = .ok (.iload_n 1, 1) := by decide +kernel
theorem dX9_drops_12 : decode cX9_drops 12 = .ok (.imul, 1) := by decide +kernel
theorem dX9_drops_13 : decode cX9_drops 13 = .ok (.istore_n 2, 1) := by decide +kernel
theorem dX9_drops_14 : decode cX9_drops 14 = .ok (.iload_n 2, 1) := by decide +kernel
theorem dX9_drops_15 : decode cX9_drops 15 = .ok (.iconst 5, 1) := by decide +kernel
theorem dX9_drops_16 : decode cX9_drops 16 = .ok (.aload_n 0, 1) := by decide +kernel
theorem dX9_drops_17 : decode cX9_drops 17 = .ok (.getfield 94, 3) := by decide +kernel
theorem dX9_drops_20 : decode cX9_drops 20 = .ok (.imul, 1) := by decide +kernel
theorem dX9_drops_21 : decode cX9_drops 21 = .ok (.if_icmp .ge 23, 3) := by decide +kernel
theorem dX9_drops_24 : decode cX9_drops 24 = .ok (.aload_n 0, 1) := by decide +kernel
theorem dX9_drops_25 : decode cX9_drops 25 = .ok (.getfield 19, 3) := by decide +kernel
theorem dX9_drops_28 : decode cX9_drops 28 = .ok (.iload_n 2, 1) := by decide +kernel
theorem dX9_drops_29 : decode cX9_drops 29 = .ok (.aload_n 0, 1) := by decide +kernel
theorem dX9_drops_30 : decode cX9_drops 30 = .ok (.getfield 19, 3) := by decide +kernel
theorem dX9_drops_33 : decode cX9_drops 33 = .ok (.iload_n 2, 1) := by decide +kernel
theorem dX9_drops_34 : decode cX9_drops 34 = .ok (.iconst 5, 1) := by decide +kernel
theorem dX9_drops_35 : decode cX9_drops 35 = .ok (.iadd, 1) := by decide +kernel
theorem dX9_drops_36 : decode cX9_drops 36 = .ok (.iaload, 1) := by decide +kernel
theorem dX9_drops_37 : decode cX9_drops 37 = .ok (.iastore, 1) := by decide +kernel
theorem dX9_drops_38 : decode cX9_drops 38 = .ok (.iinc 2 1, 3) := by decide +kernel
theorem dX9_drops_41 : decode cX9_drops 41 = .ok (.goto (-27), 3) := by decide +kernel
theorem dX9_drops_44 : decode cX9_drops 44 = .ok (.return_, 1) := by decide +kernel
theorem dX9_ask_0 : decode cX9_ask 0 = .ok (.iload_n 1, 1) := by decide +kernel
theorem dX9_ask_1 : decode cX9_ask 1 = .ok (.invokestatic 54, 3) := by decide +kernel
theorem dX9_ask_4 : decode cX9_ask 4 = .ok (.ifCond .eq 13, 3) := by decide +kernel
theorem dX9_ask_7 : decode cX9_ask 7 = .ok (.aload_n 0, 1) := by decide +kernel
theorem dX9_ask_8 : decode cX9_ask 8 = .ok (.iconst 0, 1) := by decide +kernel
theorem dX9_ask_9 : decode cX9_ask 9 = .ok (.iload_n 2, 1) := by decide +kernel
theorem dX9_ask_10 : decode cX9_ask 10 = .ok (.iload_n 3, 1) := by decide +kernel
theorem dX9_ask_11 : decode cX9_ask 11 = .ok (.invokevirtual 139, 3) := by decide +kernel
theorem dX9_ask_14 : decode cX9_ask 14 = .ok (.ifCond .ne 5, 3) := by decide +kernel
theorem dX9_ask_17 : decode cX9_ask 17 = .ok (.iconst (-1), 1) := by decide +kernel
theorem dX9_ask_18 : decode cX9_ask 18 = .ok (.ireturn, 1) := by decide +kernel
theorem dX9_ask_19 : decode cX9_ask 19 = .ok (.iconst (-1), 1) := by decide +kernel
theorem dX9_ask_20 : decode cX9_ask 20 = .ok (.istore 4, 2) := by decide +kernel
theorem dX9_ask_22 : decode cX9_ask 22 = .ok (.iconst 0, 1) := by decide +kernel
theorem dX9_ask_23 : decode cX9_ask 23 = .ok (.istore 5, 2) := by decide +kernel
theorem dX9_ask_25 : decode cX9_ask 25 = .ok (.iload 5, 2) := by decide +kernel
theorem dX9_ask_27 : decode cX9_ask 27 = .ok (.aload_n 0, 1) := by decide +kernel
theorem dX9_ask_28 : decode cX9_ask 28 = .ok (.getfield 94, 3) := by decide +kernel
theorem dX9_ask_31 : decode cX9_ask 31 = .ok (.if_icmp .ge 61, 3) := by decide +kernel
theorem dX9_ask_34 : decode cX9_ask 34 = .ok (.aload_n 0, 1) := by decide +kernel
theorem dX9_ask_35 : decode cX9_ask 35 = .ok (.getfield 19, 3) := by decide +kernel
theorem dX9_ask_38 : decode cX9_ask 38 = .ok (.iconst 5, 1) := by decide +kernel
theorem dX9_ask_39 : decode cX9_ask 39 = .ok (.iload 5, 2) := by decide +kernel
theorem dX9_ask_41 : decode cX9_ask 41 = .ok (.imul, 1) := by decide +kernel
theorem dX9_ask_42 : decode cX9_ask 42 = .ok (.iaload, 1) := by decide +kernel
theorem dX9_ask_43 : decode cX9_ask 43 = .ok (.iload_n 1, 1) := by decide +kernel
theorem dX9_ask_44 : decode cX9_ask 44 = .ok (.if_icmp .ne 38, 3) := by decide +kernel
theorem dX9_ask_47 : decode cX9_ask 47 = .ok (.aload_n 0, 1) := by decide +kernel
theorem dX9_ask_48 : decode cX9_ask 48 = .ok (.getfield 19, 3) := by decide +kernel
theorem dX9_ask_51 : decode cX9_ask 51 = .ok (.iconst 5, 1) := by decide +kernel
theorem dX9_ask_52 : decode cX9_ask 52 = .ok (.iload 5, 2) := by decide +kernel
theorem dX9_ask_54 : decode cX9_ask 54 = .ok (.imul, 1) := by decide +kernel
theorem dX9_ask_55 : decode cX9_ask 55 = .ok (.iconst 1, 1) := by decide +kernel
theorem dX9_ask_56 : decode cX9_ask 56 = .ok (.iadd, 1) := by decide +kernel
theorem dX9_ask_57 : decode cX9_ask 57 = .ok (.iaload, 1) := by decide +kernel
theorem dX9_ask_58 : decode cX9_ask 58 = .ok (.iload_n 2, 1) := by decide +kernel
theorem dX9_ask_59 : decode cX9_ask 59 = .ok (.if_icmp .ne 23, 3) := by decide +kernel
theorem dX9_ask_62 : decode cX9_ask 62 = .ok (.aload_n 0, 1) := by decide +kernel
theorem dX9_ask_63 : decode cX9_ask 63 = .ok (.getfield 19, 3) := by decide +kernel
theorem dX9_ask_66 : decode cX9_ask 66 = .ok (.iconst 5, 1) := by decide +kernel
theorem dX9_ask_67 : decode cX9_ask 67 = .ok (.iload 5, 2) := by decide +kernel
theorem dX9_ask_69 : decode cX9_ask 69 = .ok (.imul, 1) := by decide +kernel
theorem dX9_ask_70 : decode cX9_ask 70 = .ok (.iconst 2, 1) := by decide +kernel
theorem dX9_ask_71 : decode cX9_ask 71 = .ok (.iadd, 1) := by decide +kernel
theorem dX9_ask_72 : decode cX9_ask 72 = .ok (.iaload, 1) := by decide +kernel
theorem dX9_ask_73 : decode cX9_ask 73 = .ok (.iload_n 3, 1) := by decide +kernel
theorem dX9_ask_74 : decode cX9_ask 74 = .ok (.if_icmp .ne 8, 3) := by decide +kernel
theorem dX9_ask_77 : decode cX9_ask 77 = .ok (.iload 5, 2) := by decide +kernel
theorem dX9_ask_79 : decode cX9_ask 79 = .ok (.goto 5, 3) := by decide +kernel
theorem dX9_ask_82 : decode cX9_ask 82 = .ok (.iload 4, 2) := by decide +kernel
theorem dX9_ask_84 : decode cX9_ask 84 = .ok (.istore 4, 2) := by decide +kernel
theorem dX9_ask_86 : decode cX9_ask 86 = .ok (.iinc 5 1, 3) := by decide +kernel
theorem dX9_ask_89 : decode cX9_ask 89 = .ok (.goto (-64), 3) := by decide +kernel
theorem dX9_ask_92 : decode cX9_ask 92 = .ok (.iload 4, 2) := by decide +kernel
theorem dX9_ask_94 : decode cX9_ask 94 = .ok (.ifCond .lt 34, 3) := by decide +kernel
theorem dX9_ask_97 : decode cX9_ask 97 = .ok (.aload_n 0, 1) := by decide +kernel
theorem dX9_ask_98 : decode cX9_ask 98 = .ok (.iload 4, 2) := by decide +kernel
theorem dX9_ask_100 : decode cX9_ask 100 = .ok (.invokevirtual 152, 3) := by decide +kernel
theorem dX9_ask_103 : decode cX9_ask 103 = .ok (.ifCond .eq 25, 3) := by decide +kernel
theorem dX9_ask_106 : decode cX9_ask 106 = .ok (.aload_n 0, 1) := by decide +kernel
theorem dX9_ask_107 : decode cX9_ask 107 = .ok (.dup, 1) := by decide +kernel
theorem dX9_ask_108 : decode cX9_ask 108 = .ok (.getfield 97, 3) := by decide +kernel
theorem dX9_ask_111 : decode cX9_ask 111 = .ok (.iconst 1, 1) := by decide +kernel
theorem dX9_ask_112 : decode cX9_ask 112 = .ok (.iadd, 1) := by decide +kernel
theorem dX9_ask_113 : decode cX9_ask 113 = .ok (.putfield 97, 3) := by decide +kernel
theorem dX9_ask_116 : decode cX9_ask 116 = .ok (.aload_n 0, 1) := by decide +kernel
theorem dX9_ask_117 : decode cX9_ask 117 = .ok (.getfield 19, 3) := by decide +kernel
theorem dX9_ask_120 : decode cX9_ask 120 = .ok (.iconst 5, 1) := by decide +kernel
theorem dX9_ask_121 : decode cX9_ask 121 = .ok (.iload 4, 2) := by decide +kernel
theorem dX9_ask_123 : decode cX9_ask 123 = .ok (.imul, 1) := by decide +kernel
theorem dX9_ask_124 : decode cX9_ask 124 = .ok (.iconst 3, 1) := by decide +kernel
theorem dX9_ask_125 : decode cX9_ask 125 = .ok (.iadd, 1) := by decide +kernel
theorem dX9_ask_126 : decode cX9_ask 126 = .ok (.iaload, 1) := by decide +kernel
theorem dX9_ask_127 : decode cX9_ask 127 = .ok (.ireturn, 1) := by decide +kernel
theorem dX9_ask_128 : decode cX9_ask 128 = .ok (.iload 4, 2) := by decide +kernel
theorem dX9_ask_130 : decode cX9_ask 130 = .ok (.ifCond .ge 12, 3) := by decide +kernel
theorem dX9_ask_133 : decode cX9_ask 133 = .ok (.aload_n 0, 1) := by decide +kernel
theorem dX9_ask_134 : decode cX9_ask 134 = .ok (.getfield 94, 3) := by decide +kernel
theorem dX9_ask_137 : decode cX9_ask 137 = .ok (.bipush 6, 2) := by decide +kernel
theorem dX9_ask_139 : decode cX9_ask 139 = .ok (.if_icmp .ne 18, 3) := by decide +kernel
theorem dX9_ask_142 : decode cX9_ask 142 = .ok (.aload_n 0, 1) := by decide +kernel
theorem dX9_ask_143 : decode cX9_ask 143 = .ok (.iload 4, 2) := by decide +kernel
theorem dX9_ask_145 : decode cX9_ask 145 = .ok (.ifCond .lt 8, 3) := by decide +kernel
theorem dX9_ask_148 : decode cX9_ask 148 = .ok (.iload 4, 2) := by decide +kernel
theorem dX9_ask_150 : decode cX9_ask 150 = .ok (.goto 4, 3) := by decide +kernel
theorem dX9_ask_153 : decode cX9_ask 153 = .ok (.iconst 0, 1) := by decide +kernel
theorem dX9_ask_154 : decode cX9_ask 154 = .ok (.invokevirtual 155, 3) := by decide +kernel
theorem dX9_ask_157 : decode cX9_ask 157 = .ok (.aload_n 0, 1) := by decide +kernel
theorem dX9_ask_158 : decode cX9_ask 158 = .ok (.aload_n 0, 1) := by decide +kernel
theorem dX9_ask_159 : decode cX9_ask 159 = .ok (.iload_n 1, 1) := by decide +kernel
theorem dX9_ask_160 : decode cX9_ask 160 = .ok (.aload_n 0, 1) := by decide +kernel
theorem dX9_ask_161 : decode cX9_ask 161 = .ok (.getfield 32, 3) := by decide +kernel
theorem dX9_ask_164 : decode cX9_ask 164 = .ok (.invokevirtual 67, 3) := by decide +kernel
theorem dX9_ask_167 : decode cX9_ask 167 = .ok (.iload_n 2, 1) := by decide +kernel
theorem dX9_ask_168 : decode cX9_ask 168 = .ok (.iload_n 3, 1) := by decide +kernel
theorem dX9_ask_169 : decode cX9_ask 169 = .ok (.aload_n 0, 1) := by decide +kernel
theorem dX9_ask_170 : decode cX9_ask 170 = .ok (.getfield 32, 3) := by decide +kernel
theorem dX9_ask_173 : decode cX9_ask 173 = .ok (.invokevirtual 142, 3) := by decide +kernel
theorem dX9_ask_176 : decode cX9_ask 176 = .ok (.istore 5, 2) := by decide +kernel
theorem dX9_ask_178 : decode cX9_ask 178 = .ok (.aload_n 0, 1) := by decide +kernel
theorem dX9_ask_179 : decode cX9_ask 179 = .ok (.getfield 19, 3) := by decide +kernel
theorem dX9_ask_182 : decode cX9_ask 182 = .ok (.iconst 5, 1) := by decide +kernel
theorem dX9_ask_183 : decode cX9_ask 183 = .ok (.aload_n 0, 1) := by decide +kernel
theorem dX9_ask_184 : decode cX9_ask 184 = .ok (.getfield 94, 3) := by decide +kernel
theorem dX9_ask_187 : decode cX9_ask 187 = .ok (.imul, 1) := by decide +kernel
theorem dX9_ask_188 : decode cX9_ask 188 = .ok (.iload_n 1, 1) := by decide +kernel
theorem dX9_ask_189 : decode cX9_ask 189 = .ok (.iastore, 1) := by decide +kernel
theorem dX9_ask_190 : decode cX9_ask 190 = .ok (.aload_n 0, 1) := by decide +kernel
theorem dX9_ask_191 : decode cX9_ask 191 = .ok (.getfield 19, 3) := by decide +kernel
theorem dX9_ask_194 : decode cX9_ask 194 = .ok (.iconst 5, 1) := by decide +kernel
theorem dX9_ask_195 : decode cX9_ask 195 = .ok (.aload_n 0, 1) := by decide +kernel
theorem dX9_ask_196 : decode cX9_ask 196 = .ok (.getfield 94, 3) := by decide +kernel
theorem dX9_ask_199 : decode cX9_ask 199 = .ok (.imul, 1) := by decide +kernel
theorem dX9_ask_200 : decode cX9_ask 200 = .ok (.iconst 1, 1) := by decide +kernel
theorem dX9_ask_201 : decode cX9_ask 201 = .ok (.iadd, 1) := by decide +kernel
theorem dX9_ask_202 : decode cX9_ask 202 = .ok (.iload_n 2, 1) := by decide +kernel
theorem dX9_ask_203 : decode cX9_ask 203 = .ok (.iastore, 1) := by decide +kernel
theorem dX9_ask_204 : decode cX9_ask 204 = .ok (.aload_n 0, 1) := by decide +kernel
theorem dX9_ask_205 : decode cX9_ask 205 = .ok (.getfield 19, 3) := by decide +kernel
theorem dX9_ask_208 : decode cX9_ask 208 = .ok (.iconst 5, 1) := by decide +kernel
theorem dX9_ask_209 : decode cX9_ask 209 = .ok (.aload_n 0, 1) := by decide +kernel
theorem dX9_ask_210 : decode cX9_ask 210 = .ok (.getfield 94, 3) := by decide +kernel
theorem dX9_ask_213 : decode cX9_ask 213 = .ok (.imul, 1) := by decide +kernel
theorem dX9_ask_214 : decode cX9_ask 214 = .ok (.iconst 2, 1) := by decide +kernel
theorem dX9_ask_215 : decode cX9_ask 215 = .ok (.iadd, 1) := by decide +kernel
theorem dX9_ask_216 : decode cX9_ask 216 = .ok (.iload_n 3, 1) := by decide +kernel
theorem dX9_ask_217 : decode cX9_ask 217 = .ok (.iastore, 1) := by decide +kernel
theorem dX9_ask_218 : decode cX9_ask 218 = .ok (.aload_n 0, 1) := by decide +kernel
theorem dX9_ask_219 : decode cX9_ask 219 = .ok (.getfield 19, 3) := by decide +kernel
theorem dX9_ask_222 : decode cX9_ask 222 = .ok (.iconst 5, 1) := by decide +kernel
theorem dX9_ask_223 : decode cX9_ask 223 = .ok (.aload_n 0, 1) := by decide +kernel
theorem dX9_ask_224 : decode cX9_ask 224 = .ok (.getfield 94, 3) := by decide +kernel
theorem dX9_ask_227 : decode cX9_ask 227 = .ok (.imul, 1) := by decide +kernel
theorem dX9_ask_228 : decode cX9_ask 228 = .ok (.iconst 3, 1) := by decide +kernel
theorem dX9_ask_229 : decode cX9_ask 229 = .ok (.iadd, 1) := by decide +kernel
theorem dX9_ask_230 : decode cX9_ask 230 = .ok (.iload 5, 2) := by decide +kernel
theorem dX9_ask_232 : decode cX9_ask 232 = .ok (.iastore, 1) := by decide +kernel
theorem dX9_ask_233 : decode cX9_ask 233 = .ok (.aload_n 0, 1) := by decide +kernel
theorem dX9_ask_234 : decode cX9_ask 234 = .ok (.getfield 19, 3) := by decide +kernel
theorem dX9_ask_237 : decode cX9_ask 237 = .ok (.iconst 5, 1) := by decide +kernel
theorem dX9_ask_238 : decode cX9_ask 238 = .ok (.aload_n 0, 1) := by decide +kernel
theorem dX9_ask_239 : decode cX9_ask 239 = .ok (.getfield 94, 3) := by decide +kernel
theorem dX9_ask_242 : decode cX9_ask 242 = .ok (.imul, 1) := by decide +kernel
theorem dX9_ask_243 : decode cX9_ask 243 = .ok (.iconst 4, 1) := by decide +kernel
theorem dX9_ask_244 : decode cX9_ask 244 = .ok (.iadd, 1) := by decide +kernel
theorem dX9_ask_245 : decode cX9_ask 245 = .ok (.aload_n 0, 1) := by decide +kernel
theorem dX9_ask_246 : decode cX9_ask 246 = .ok (.getfield 32, 3) := by decide +kernel
theorem dX9_ask_249 : decode cX9_ask 249 = .ok (.iastore, 1) := by decide +kernel
theorem dX9_ask_250 : decode cX9_ask 250 = .ok (.aload_n 0, 1) := by decide +kernel
theorem dX9_ask_251 : decode cX9_ask 251 = .ok (.dup, 1) := by decide +kernel
theorem dX9_ask_252 : decode cX9_ask 252 = .ok (.getfield 94, 3) := by decide +kernel
theorem dX9_ask_255 : decode cX9_ask 255 = .ok (.iconst 1, 1) := by decide +kernel
theorem dX9_ask_256 : decode cX9_ask 256 = .ok (.iadd, 1) := by decide +kernel
theorem dX9_ask_257 : decode cX9_ask 257 = .ok (.putfield 94, 3) := by decide +kernel
theorem dX9_ask_260 : decode cX9_ask 260 = .ok (.iload 5, 2) := by decide +kernel
theorem dX9_ask_262 : decode cX9_ask 262 = .ok (.ireturn, 1) := by decide +kernel
theorem dX9_stale_0 : decode cX9_stale 0 = .ok (.iconst 0, 1) := by decide +kernel
theorem dX9_stale_1 : decode cX9_stale 1 = .ok (.istore_n 1, 1) := by decide +kernel
theorem dX9_stale_2 : decode cX9_stale 2 = .ok (.iconst 0, 1) := by decide +kernel
theorem dX9_stale_3 : decode cX9_stale 3 = .ok (.istore_n 2, 1) := by decide +kernel
theorem dX9_stale_4 : decode cX9_stale 4 = .ok (.iload_n 2, 1) := by decide +kernel
theorem dX9_stale_5 : decode cX9_stale 5 = .ok (.aload_n 0, 1) := by decide +kernel
theorem dX9_stale_6 : decode cX9_stale 6 = .ok (.getfield 94, 3) := by decide +kernel
theorem dX9_stale_9 : decode cX9_stale 9 = .ok (.if_icmp .ge 92, 3) := by decide +kernel
theorem dX9_stale_12 : decode cX9_stale 12 = .ok (.aload_n 0, 1) := by decide +kernel
theorem dX9_stale_13 : decode cX9_stale 13 = .ok (.iload_n 2, 1) := by decide +kernel
theorem dX9_stale_14 : decode cX9_stale 14 = .ok (.invokevirtual 152, 3) := by decide +kernel
theorem dX9_stale_17 : decode cX9_stale 17 = .ok (.ifCond .eq 64, 3) := by decide +kernel
theorem dX9_stale_20 : decode cX9_stale 20 = .ok (.aload_n 0, 1) := by decide +kernel
theorem dX9_stale_21 : decode cX9_stale 21 = .ok (.aload_n 0, 1) := by decide +kernel
theorem dX9_stale_22 : decode cX9_stale 22 = .ok (.aload_n 0, 1) := by decide +kernel
theorem dX9_stale_23 : decode cX9_stale 23 = .ok (.getfield 19, 3) := by decide +kernel
theorem dX9_stale_26 : decode cX9_stale 26 = .ok (.iconst 5, 1) := by decide +kernel
theorem dX9_stale_27 : decode cX9_stale 27 = .ok (.iload_n 2, 1) := by decide +kernel
theorem dX9_stale_28 : decode cX9_stale 28 = .ok (.imul, 1) := by decide +kernel
theorem dX9_stale_29 : decode cX9_stale 29 = .ok (.iaload, 1) := by decide +kernel
theorem dX9_stale_30 : decode cX9_stale 30 = .ok (.aload_n 0, 1) := by decide +kernel
theorem dX9_stale_31 : decode cX9_stale 31 = .ok (.getfield 32, 3) := by decide +kernel
theorem dX9_stale_34 : decode cX9_stale 34 = .ok (.invokevirtual 67, 3) := by decide +kernel
theorem dX9_stale_37 : decode cX9_stale 37 = .ok (.aload_n 0, 1) := by decide +kernel
theorem dX9_stale_38 : decode cX9_stale 38 = .ok (.getfield 19, 3) := by decide +kernel
theorem dX9_stale_41 : decode cX9_stale 41 = .ok (.iconst 5, 1) := by decide +kernel
theorem dX9_stale_42 : decode cX9_stale 42 = .ok (.iload_n 2, 1) := by decide +kernel
theorem dX9_stale_43 : decode cX9_stale 43 = .ok (.imul, 1) := by decide +kernel
theorem dX9_stale_44 : decode cX9_stale 44 = .ok (.iconst 1, 1) := by decide +kernel
theorem dX9_stale_45 : decode cX9_stale 45 = .ok (.iadd, 1) := by decide +kernel
theorem dX9_stale_46 : decode cX9_stale 46 = .ok (.iaload, 1) := by decide +kernel
theorem dX9_stale_47 : decode cX9_stale 47 = .ok (.aload_n 0, 1) := by decide +kernel
theorem dX9_stale_48 : decode cX9_stale 48 = .ok (.getfield 19, 3) := by decide +kernel
theorem dX9_stale_51 : decode cX9_stale 51 = .ok (.iconst 5, 1) := by decide +kernel
theorem dX9_stale_52 : decode cX9_stale 52 = .ok (.iload_n 2, 1) := by decide +kernel
theorem dX9_stale_53 : decode cX9_stale 53 = .ok (.imul, 1) := by decide +kernel
theorem dX9_stale_54 : decode cX9_stale 54 = .ok (.iconst 2, 1) := by decide +kernel
theorem dX9_stale_55 : decode cX9_stale 55 = .ok (.iadd, 1) := by decide +kernel
theorem dX9_stale_56 : decode cX9_stale 56 = .ok (.iaload, 1) := by decide +kernel
theorem dX9_stale_57 : decode cX9_stale 57 = .ok (.aload_n 0, 1) := by decide +kernel
theorem dX9_stale_58 : decode cX9_stale 58 = .ok (.getfield 32, 3) := by decide +kernel
theorem dX9_stale_61 : decode cX9_stale 61 = .ok (.invokevirtual 142, 3) := by decide +kernel
theorem dX9_stale_64 : decode cX9_stale 64 = .ok (.aload_n 0, 1) := by decide +kernel
theorem dX9_stale_65 : decode cX9_stale 65 = .ok (.getfield 19, 3) := by decide +kernel
theorem dX9_stale_68 : decode cX9_stale 68 = .ok (.iconst 5, 1) := by decide +kernel
theorem dX9_stale_69 : decode cX9_stale 69 = .ok (.iload_n 2, 1) := by decide +kernel
theorem dX9_stale_70 : decode cX9_stale 70 = .ok (.imul, 1) := by decide +kernel
theorem dX9_stale_71 : decode cX9_stale 71 = .ok (.iconst 3, 1) := by decide +kernel
theorem dX9_stale_72 : decode cX9_stale 72 = .ok (.iadd, 1) := by decide +kernel
theorem dX9_stale_73 : decode cX9_stale 73 = .ok (.iaload, 1) := by decide +kernel
theorem dX9_stale_74 : decode cX9_stale 74 = .ok (.if_icmp .eq 7, 3) := by decide +kernel
theorem dX9_stale_77 : decode cX9_stale 77 = .ok (.iconst 1, 1) := by decide +kernel
theorem dX9_stale_78 : decode cX9_stale 78 = .ok (.goto 4, 3) := by decide +kernel
theorem dX9_stale_81 : decode cX9_stale 81 = .ok (.iconst 0, 1) := by decide +kernel
theorem dX9_stale_82 : decode cX9_stale 82 = .ok (.istore_n 3, 1) := by decide +kernel
theorem dX9_stale_83 : decode cX9_stale 83 = .ok (.iload_n 1, 1) := by decide +kernel
theorem dX9_stale_84 : decode cX9_stale 84 = .ok (.iload_n 3, 1) := by decide +kernel
theorem dX9_stale_85 : decode cX9_stale 85 = .ok (.ifCond .eq 7, 3) := by decide +kernel
theorem dX9_stale_88 : decode cX9_stale 88 = .ok (.iconst 1, 1) := by decide +kernel
theorem dX9_stale_89 : decode cX9_stale 89 = .ok (.goto 4, 3) := by decide +kernel
theorem dX9_stale_92 : decode cX9_stale 92 = .ok (.iconst 0, 1) := by decide +kernel
theorem dX9_stale_93 : decode cX9_stale 93 = .ok (.iadd, 1) := by decide +kernel
theorem dX9_stale_94 : decode cX9_stale 94 = .ok (.istore_n 1, 1) := by decide +kernel
theorem dX9_stale_95 : decode cX9_stale 95 = .ok (.iinc 2 1, 3) := by decide +kernel
theorem dX9_stale_98 : decode cX9_stale 98 = .ok (.goto (-94), 3) := by decide +kernel
theorem dX9_stale_101 : decode cX9_stale 101 = .ok (.iload_n 1, 1) := by decide +kernel
theorem dX9_stale_102 : decode cX9_stale 102 = .ok (.ireturn, 1) := by decide +kernel
theorem dX9_type_0 : decode cX9_type 0 = .ok (.iload_n 1, 1) := by decide +kernel
theorem dX9_type_1 : decode cX9_type 1 = .ok (.bipush 32, 2) := by decide +kernel
theorem dX9_type_3 : decode cX9_type 3 = .ok (.bipush 126, 2) := by decide +kernel
theorem dX9_type_5 : decode cX9_type 5 = .ok (.invokestatic 35, 3) := by decide +kernel
theorem dX9_type_8 : decode cX9_type 8 = .ok (.ifCond .ne 5, 3) := by decide +kernel
theorem dX9_type_11 : decode cX9_type 11 = .ok (.iconst (-1), 1) := by decide +kernel
theorem dX9_type_12 : decode cX9_type 12 = .ok (.ireturn, 1) := by decide +kernel
theorem dX9_type_13 : decode cX9_type 13 = .ok (.aload_n 0, 1) := by decide +kernel
theorem dX9_type_14 : decode cX9_type 14 = .ok (.getfield 159, 3) := by decide +kernel
theorem dX9_type_17 : decode cX9_type 17 = .ok (.bipush 60, 2) := by decide +kernel
theorem dX9_type_19 : decode cX9_type 19 = .ok (.if_icmp .ne 6, 3) := by decide +kernel
theorem dX9_type_22 : decode cX9_type 22 = .ok (.bipush (-3), 2) := by decide +kernel
theorem dX9_type_24 : decode cX9_type 24 = .ok (.ireturn, 1) := by decide +kernel
theorem dX9_type_25 : decode cX9_type 25 = .ok (.aload_n 0, 1) := by decide +kernel
theorem dX9_type_26 : decode cX9_type 26 = .ok (.getfield 26, 3) := by decide +kernel
theorem dX9_type_29 : decode cX9_type 29 = .ok (.aload_n 0, 1) := by decide +kernel
theorem dX9_type_30 : decode cX9_type 30 = .ok (.getfield 159, 3) := by decide +kernel
theorem dX9_type_33 : decode cX9_type 33 = .ok (.iload_n 1, 1) := by decide +kernel
theorem dX9_type_34 : decode cX9_type 34 = .ok (.iastore, 1) := by decide +kernel
theorem dX9_type_35 : decode cX9_type 35 = .ok (.aload_n 0, 1) := by decide +kernel
theorem dX9_type_36 : decode cX9_type 36 = .ok (.dup, 1) := by decide +kernel
theorem dX9_type_37 : decode cX9_type 37 = .ok (.getfield 159, 3) := by decide +kernel
theorem dX9_type_40 : decode cX9_type 40 = .ok (.iconst 1, 1) := by decide +kernel
theorem dX9_type_41 : decode cX9_type 41 = .ok (.iadd, 1) := by decide +kernel
theorem dX9_type_42 : decode cX9_type 42 = .ok (.putfield 159, 3) := by decide +kernel
theorem dX9_type_45 : decode cX9_type 45 = .ok (.aload_n 0, 1) := by decide +kernel
theorem dX9_type_46 : decode cX9_type 46 = .ok (.getfield 159, 3) := by decide +kernel
theorem dX9_type_49 : decode cX9_type 49 = .ok (.ireturn, 1) := by decide +kernel
theorem dX9_clearText_0 : decode cX9_clearText 0 = .ok (.aload_n 0, 1) := by decide +kernel
theorem dX9_clearText_1 : decode cX9_clearText 1 = .ok (.getfield 159, 3) := by decide +kernel
theorem dX9_clearText_4 : decode cX9_clearText 4 = .ok (.istore_n 1, 1) := by decide +kernel
theorem dX9_clearText_5 : decode cX9_clearText 5 = .ok (.aload_n 0, 1) := by decide +kernel
theorem dX9_clearText_6 : decode cX9_clearText 6 = .ok (.iconst 0, 1) := by decide +kernel
theorem dX9_clearText_7 : decode cX9_clearText 7 = .ok (.putfield 159, 3) := by decide +kernel
theorem dX9_clearText_10 : decode cX9_clearText 10 = .ok (.iload_n 1, 1) := by decide +kernel
theorem dX9_clearText_11 : decode cX9_clearText 11 = .ok (.ireturn, 1) := by decide +kernel
theorem dX9_isHere_0 : decode cX9_isHere 0 = .ok (.aload_n 0, 1) := by decide +kernel
theorem dX9_isHere_1 : decode cX9_isHere 1 = .ok (.getfield 162, 3) := by decide +kernel
theorem dX9_isHere_4 : decode cX9_isHere 4 = .ok (.aload_n 0, 1) := by decide +kernel
theorem dX9_isHere_5 : decode cX9_isHere 5 = .ok (.getfield 159, 3) := by decide +kernel
theorem dX9_isHere_8 : decode cX9_isHere 8 = .ok (.if_icmp .ge 24, 3) := by decide +kernel
theorem dX9_isHere_11 : decode cX9_isHere 11 = .ok (.aload_n 0, 1) := by decide +kernel
theorem dX9_isHere_12 : decode cX9_isHere 12 = .ok (.getfield 26, 3) := by decide +kernel
theorem dX9_isHere_15 : decode cX9_isHere 15 = .ok (.aload_n 0, 1) := by decide +kernel
theorem dX9_isHere_16 : decode cX9_isHere 16 = .ok (.getfield 162, 3) := by decide +kernel
theorem dX9_isHere_19 : decode cX9_isHere 19 = .ok (.iaload, 1) := by decide +kernel
theorem dX9_isHere_20 : decode cX9_isHere 20 = .ok (.iload_n 1, 1) := by decide +kernel
theorem dX9_isHere_21 : decode cX9_isHere 21 = .ok (.iload_n 2, 1) := by decide +kernel
theorem dX9_isHere_22 : decode cX9_isHere 22 = .ok (.invokestatic 35, 3) := by decide +kernel
theorem dX9_isHere_25 : decode cX9_isHere 25 = .ok (.ifCond .eq 7, 3) := by decide +kernel
theorem dX9_isHere_28 : decode cX9_isHere 28 = .ok (.iconst 1, 1) := by decide +kernel
theorem dX9_isHere_29 : decode cX9_isHere 29 = .ok (.goto 4, 3) := by decide +kernel
theorem dX9_isHere_32 : decode cX9_isHere 32 = .ok (.iconst 0, 1) := by decide +kernel
theorem dX9_isHere_33 : decode cX9_isHere 33 = .ok (.ireturn, 1) := by decide +kernel
theorem dX9_isLabels_0 : decode cX9_isLabels 0 = .ok (.aload_n 0, 1) := by decide +kernel
theorem dX9_isLabels_1 : decode cX9_isLabels 1 = .ok (.getfield 162, 3) := by decide +kernel
theorem dX9_isLabels_4 : decode cX9_isLabels 4 = .ok (.istore_n 1, 1) := by decide +kernel
theorem dX9_isLabels_5 : decode cX9_isLabels 5 = .ok (.iconst 1, 1) := by decide +kernel
theorem dX9_isLabels_6 : decode cX9_isLabels 6 = .ok (.istore_n 2, 1) := by decide +kernel
theorem dX9_isLabels_7 : decode cX9_isLabels 7 = .ok (.aload_n 0, 1) := by decide +kernel
theorem dX9_isLabels_8 : decode cX9_isLabels 8 = .ok (.iconst 0, 1) := by decide +kernel
theorem dX9_isLabels_9 : decode cX9_isLabels 9 = .ok (.putfield 165, 3) := by decide +kernel
theorem dX9_isLabels_12 : decode cX9_isLabels 12 = .ok (.aload_n 0, 1) := by decide +kernel
theorem dX9_isLabels_13 : decode cX9_isLabels 13 = .ok (.getfield 162, 3) := by decide +kernel
theorem dX9_isLabels_16 : decode cX9_isLabels 16 = .ok (.iload_n 1, 1) := by decide +kernel
theorem dX9_isLabels_17 : decode cX9_isLabels 17 = .ok (.isub, 1) := by decide +kernel
theorem dX9_isLabels_18 : decode cX9_isLabels 18 = .ok (.iconst 3, 1) := by decide +kernel
theorem dX9_isLabels_19 : decode cX9_isLabels 19 = .ok (.if_icmp .ge 54, 3) := by decide +kernel
theorem dX9_isLabels_22 : decode cX9_isLabels 22 = .ok (.aload_n 0, 1) := by decide +kernel
theorem dX9_isLabels_23 : decode cX9_isLabels 23 = .ok (.bipush 49, 2) := by decide +kernel
theorem dX9_isLabels_25 : decode cX9_isLabels 25 = .ok (.bipush 52, 2) := by decide +kernel
theorem dX9_isLabels_27 : decode cX9_isLabels 27 = .ok (.invokevirtual 168, 3) := by decide +kernel
theorem dX9_isLabels_30 : decode cX9_isLabels 30 = .ok (.ifCond .eq 43, 3) := by decide +kernel
theorem dX9_isLabels_33 : decode cX9_isLabels 33 = .ok (.aload_n 0, 1) := by decide +kernel
theorem dX9_isLabels_34 : decode cX9_isLabels 34 = .ok (.dup, 1) := by decide +kernel
theorem dX9_isLabels_35 : decode cX9_isLabels 35 = .ok (.getfield 165, 3) := by decide +kernel
theorem dX9_isLabels_38 : decode cX9_isLabels 38 = .ok (.iload_n 2, 1) := by decide +kernel
theorem dX9_isLabels_39 : decode cX9_isLabels 39 = .ok (.aload_n 0, 1) := by decide +kernel
theorem dX9_isLabels_40 : decode cX9_isLabels 40 = .ok (.getfield 26, 3) := by decide +kernel
theorem dX9_isLabels_43 : decode cX9_isLabels 43 = .ok (.aload_n 0, 1) := by decide +kernel
theorem dX9_isLabels_44 : decode cX9_isLabels 44 = .ok (.getfield 162, 3) := by decide +kernel
theorem dX9_isLabels_47 : decode cX9_isLabels 47 = .ok (.iaload, 1) := by decide +kernel
theorem dX9_isLabels_48 : decode cX9_isLabels 48 = .ok (.bipush 48, 2) := by decide +kernel
theorem dX9_isLabels_50 : decode cX9_isLabels 50 = .ok (.isub, 1) := by decide +kernel
theorem dX9_isLabels_51 : decode cX9_isLabels 51 = .ok (.imul, 1) := by decide +kernel
theorem dX9_isLabels_52 : decode cX9_isLabels 52 = .ok (.iadd, 1) := by decide +kernel
theorem dX9_isLabels_53 : decode cX9_isLabels 53 = .ok (.putfield 165, 3) := by decide +kernel
theorem dX9_isLabels_56 : decode cX9_isLabels 56 = .ok (.iload_n 2, 1) := by decide +kernel
theorem dX9_isLabels_57 : decode cX9_isLabels 57 = .ok (.iconst 5, 1) := by decide +kernel
theorem dX9_isLabels_58 : decode cX9_isLabels 58 = .ok (.imul, 1) := by decide +kernel
theorem dX9_isLabels_59 : decode cX9_isLabels 59 = .ok (.istore_n 2, 1) := by decide +kernel
theorem dX9_isLabels_60 : decode cX9_isLabels 60 = .ok (.aload_n 0, 1) := by decide +kernel
theorem dX9_isLabels_61 : decode cX9_isLabels 61 = .ok (.dup, 1) := by decide +kernel
theorem dX9_isLabels_62 : decode cX9_isLabels 62 = .ok (.getfield 162, 3) := by decide +kernel
theorem dX9_isLabels_65 : decode cX9_isLabels 65 = .ok (.iconst 1, 1) := by decide +kernel
theorem dX9_isLabels_66 : decode cX9_isLabels 66 = .ok (.iadd, 1) := by decide +kernel
theorem dX9_isLabels_67 : decode cX9_isLabels 67 = .ok (.putfield 162, 3) := by decide +kernel
theorem dX9_isLabels_70 : decode cX9_isLabels 70 = .ok (.goto (-58), 3) := by decide +kernel
theorem dX9_isLabels_73 : decode cX9_isLabels 73 = .ok (.aload_n 0, 1) := by decide +kernel
theorem dX9_isLabels_74 : decode cX9_isLabels 74 = .ok (.getfield 162, 3) := by decide +kernel
theorem dX9_isLabels_77 : decode cX9_isLabels 77 = .ok (.iload_n 1, 1) := by decide +kernel
theorem dX9_isLabels_78 : decode cX9_isLabels 78 = .ok (.if_icmp .le 7, 3) := by decide +kernel
theorem dX9_isLabels_81 : decode cX9_isLabels 81 = .ok (.iconst 1, 1) := by decide +kernel
theorem dX9_isLabels_82 : decode cX9_isLabels 82 = .ok (.goto 4, 3) := by decide +kernel
theorem dX9_isLabels_85 : decode cX9_isLabels 85 = .ok (.iconst 0, 1) := by decide +kernel
theorem dX9_isLabels_86 : decode cX9_isLabels 86 = .ok (.ireturn, 1) := by decide +kernel
theorem dX9_isDigits_0 : decode cX9_isDigits 0 = .ok (.aload_n 0, 1) := by decide +kernel
theorem dX9_isDigits_1 : decode cX9_isDigits 1 = .ok (.getfield 162, 3) := by decide +kernel
theorem dX9_isDigits_4 : decode cX9_isDigits 4 = .ok (.istore_n 1, 1) := by decide +kernel
theorem dX9_isDigits_5 : decode cX9_isDigits 5 = .ok (.aload_n 0, 1) := by decide +kernel
theorem dX9_isDigits_6 : decode cX9_isDigits 6 = .ok (.iconst 0, 1) := by decide +kernel
theorem dX9_isDigits_7 : decode cX9_isDigits 7 = .ok (.putfield 165, 3) := by decide +kernel
theorem dX9_isDigits_10 : decode cX9_isDigits 10 = .ok (.aload_n 0, 1) := by decide +kernel
theorem dX9_isDigits_11 : decode cX9_isDigits 11 = .ok (.getfield 162, 3) := by decide +kernel
theorem dX9_isDigits_14 : decode cX9_isDigits 14 = .ok (.iload_n 1, 1) := by decide +kernel
