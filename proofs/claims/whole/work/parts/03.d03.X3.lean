theorem dX3_init_0 : decode cX3_init 0 = .ok (.aload_n 0, 1) := by decide +kernel
theorem dX3_init_1 : decode cX3_init 1 = .ok (.invokespecial 3, 3) := by decide +kernel
theorem dX3_init_4 : decode cX3_init 4 = .ok (.aload_n 0, 1) := by decide +kernel
theorem dX3_init_5 : decode cX3_init 5 = .ok (.new 9, 3) := by decide +kernel
theorem dX3_init_8 : decode cX3_init 8 = .ok (.dup, 1) := by decide +kernel
theorem dX3_init_9 : decode cX3_init 9 = .ok (.bipush 10, 2) := by decide +kernel
theorem dX3_init_11 : decode cX3_init 11 = .ok (.invokespecial 13, 3) := by decide +kernel
theorem dX3_init_14 : decode cX3_init 14 = .ok (.putfield 16, 3) := by decide +kernel
theorem dX3_init_17 : decode cX3_init 17 = .ok (.aload_n 0, 1) := by decide +kernel
theorem dX3_init_18 : decode cX3_init 18 = .ok (.bipush 10, 2) := by decide +kernel
theorem dX3_init_20 : decode cX3_init 20 = .ok (.newarray .int, 2) := by decide +kernel
theorem dX3_init_22 : decode cX3_init 22 = .ok (.putfield 20, 3) := by decide +kernel
theorem dX3_init_25 : decode cX3_init 25 = .ok (.aload_n 0, 1) := by decide +kernel
theorem dX3_init_26 : decode cX3_init 26 = .ok (.bipush 10, 2) := by decide +kernel
theorem dX3_init_28 : decode cX3_init 28 = .ok (.newarray .int, 2) := by decide +kernel
theorem dX3_init_30 : decode cX3_init 30 = .ok (.putfield 24, 3) := by decide +kernel
theorem dX3_init_33 : decode cX3_init 33 = .ok (.aload_n 0, 1) := by decide +kernel
theorem dX3_init_34 : decode cX3_init 34 = .ok (.bipush 10, 2) := by decide +kernel
theorem dX3_init_36 : decode cX3_init 36 = .ok (.newarray .int, 2) := by decide +kernel
theorem dX3_init_38 : decode cX3_init 38 = .ok (.putfield 27, 3) := by decide +kernel
theorem dX3_init_41 : decode cX3_init 41 = .ok (.return_, 1) := by decide +kernel
theorem dX3_isLength_0 : decode cX3_isLength 0 = .ok (.iload_n 0, 1) := by decide +kernel
theorem dX3_isLength_1 : decode cX3_isLength 1 = .ok (.iconst 1, 1) := by decide +kernel
theorem dX3_isLength_2 : decode cX3_isLength 2 = .ok (.if_icmp .lt 13, 3) := by decide +kernel
theorem dX3_isLength_5 : decode cX3_isLength 5 = .ok (.iload_n 0, 1) := by decide +kernel
theorem dX3_isLength_6 : decode cX3_isLength 6 = .ok (.bipush 8, 2) := by decide +kernel
theorem dX3_isLength_8 : decode cX3_isLength 8 = .ok (.if_icmp .gt 7, 3) := by decide +kernel
theorem dX3_isLength_11 : decode cX3_isLength 11 = .ok (.iconst 1, 1) := by decide +kernel
theorem dX3_isLength_12 : decode cX3_isLength 12 = .ok (.goto 4, 3) := by decide +kernel
theorem dX3_isLength_15 : decode cX3_isLength 15 = .ok (.iconst 0, 1) := by decide +kernel
theorem dX3_isLength_16 : decode cX3_isLength 16 = .ok (.ireturn, 1) := by decide +kernel
theorem dX3_make_0 : decode cX3_make 0 = .ok (.aload_n 0, 1) := by decide +kernel
theorem dX3_make_1 : decode cX3_make 1 = .ok (.getfield 16, 3) := by decide +kernel
theorem dX3_make_4 : decode cX3_make 4 = .ok (.iload 4, 2) := by decide +kernel
theorem dX3_make_6 : decode cX3_make 6 = .ok (.invokevirtual 30, 3) := by decide +kernel
theorem dX3_make_9 : decode cX3_make 9 = .ok (.istore 5, 2) := by decide +kernel
theorem dX3_make_11 : decode cX3_make 11 = .ok (.iload 5, 2) := by decide +kernel
theorem dX3_make_13 : decode cX3_make 13 = .ok (.iconst (-1), 1) := by decide +kernel
theorem dX3_make_14 : decode cX3_make 14 = .ok (.if_icmp .eq 27, 3) := by decide +kernel
theorem dX3_make_17 : decode cX3_make 17 = .ok (.aload_n 0, 1) := by decide +kernel
theorem dX3_make_18 : decode cX3_make 18 = .ok (.getfield 20, 3) := by decide +kernel
theorem dX3_make_21 : decode cX3_make 21 = .ok (.iload 5, 2) := by decide +kernel
theorem dX3_make_23 : decode cX3_make 23 = .ok (.iload_n 1, 1) := by decide +kernel
theorem dX3_make_24 : decode cX3_make 24 = .ok (.iastore, 1) := by decide +kernel
theorem dX3_make_25 : decode cX3_make 25 = .ok (.aload_n 0, 1) := by decide +kernel
theorem dX3_make_26 : decode cX3_make 26 = .ok (.getfield 24, 3) := by decide +kernel
theorem dX3_make_29 : decode cX3_make 29 = .ok (.iload 5, 2) := by decide +kernel
theorem dX3_make_31 : decode cX3_make 31 = .ok (.iload_n 2, 1) := by decide +kernel
theorem dX3_make_32 : decode cX3_make 32 = .ok (.iastore, 1) := by decide +kernel
theorem dX3_make_33 : decode cX3_make 33 = .ok (.aload_n 0, 1) := by decide +kernel
theorem dX3_make_34 : decode cX3_make 34 = .ok (.getfield 27, 3) := by decide +kernel
theorem dX3_make_37 : decode cX3_make 37 = .ok (.iload 5, 2) := by decide +kernel
theorem dX3_make_39 : decode cX3_make 39 = .ok (.iload_n 3, 1) := by decide +kernel
theorem dX3_make_40 : decode cX3_make 40 = .ok (.iastore, 1) := by decide +kernel
theorem dX3_make_41 : decode cX3_make 41 = .ok (.iload 5, 2) := by decide +kernel
theorem dX3_make_43 : decode cX3_make 43 = .ok (.ireturn, 1) := by decide +kernel
theorem dX3_viewAt_0 : decode cX3_viewAt 0 = .ok (.iconst 0, 1) := by decide +kernel
theorem dX3_viewAt_1 : decode cX3_viewAt 1 = .ok (.istore_n 3, 1) := by decide +kernel
theorem dX3_viewAt_2 : decode cX3_viewAt 2 = .ok (.iconst 0, 1) := by decide +kernel
theorem dX3_viewAt_3 : decode cX3_viewAt 3 = .ok (.istore 4, 2) := by decide +kernel
theorem dX3_viewAt_5 : decode cX3_viewAt 5 = .ok (.iconst 0, 1) := by decide +kernel
theorem dX3_viewAt_6 : decode cX3_viewAt 6 = .ok (.istore 5, 2) := by decide +kernel
theorem dX3_viewAt_8 : decode cX3_viewAt 8 = .ok (.iload 5, 2) := by decide +kernel
theorem dX3_viewAt_10 : decode cX3_viewAt 10 = .ok (.aload_n 0, 1) := by decide +kernel
theorem dX3_viewAt_11 : decode cX3_viewAt 11 = .ok (.getfield 16, 3) := by decide +kernel
theorem dX3_viewAt_14 : decode cX3_viewAt 14 = .ok (.getfield 34, 3) := by decide +kernel
theorem dX3_viewAt_17 : decode cX3_viewAt 17 = .ok (.if_icmp .ge 60, 3) := by decide +kernel
theorem dX3_viewAt_20 : decode cX3_viewAt 20 = .ok (.aload_n 0, 1) := by decide +kernel
theorem dX3_viewAt_21 : decode cX3_viewAt 21 = .ok (.getfield 27, 3) := by decide +kernel
theorem dX3_viewAt_24 : decode cX3_viewAt 24 = .ok (.iload 5, 2) := by decide +kernel
theorem dX3_viewAt_26 : decode cX3_viewAt 26 = .ok (.iaload, 1) := by decide +kernel
theorem dX3_viewAt_27 : decode cX3_viewAt 27 = .ok (.iload_n 3, 1) := by decide +kernel
theorem dX3_viewAt_28 : decode cX3_viewAt 28 = .ok (.if_icmp .le 43, 3) := by decide +kernel
theorem dX3_viewAt_31 : decode cX3_viewAt 31 = .ok (.aload_n 0, 1) := by decide +kernel
theorem dX3_viewAt_32 : decode cX3_viewAt 32 = .ok (.iload 5, 2) := by decide +kernel
theorem dX3_viewAt_34 : decode cX3_viewAt 34 = .ok (.iload_n 1, 1) := by decide +kernel
theorem dX3_viewAt_35 : decode cX3_viewAt 35 = .ok (.invokevirtual 38, 3) := by decide +kernel
theorem dX3_viewAt_38 : decode cX3_viewAt 38 = .ok (.ifCond .eq 33, 3) := by decide +kernel
theorem dX3_viewAt_41 : decode cX3_viewAt 41 = .ok (.aload_n 0, 1) := by decide +kernel
theorem dX3_viewAt_42 : decode cX3_viewAt 42 = .ok (.getfield 16, 3) := by decide +kernel
theorem dX3_viewAt_45 : decode cX3_viewAt 45 = .ok (.iload 5, 2) := by decide +kernel
theorem dX3_viewAt_47 : decode cX3_viewAt 47 = .ok (.iload_n 2, 1) := by decide +kernel
theorem dX3_viewAt_48 : decode cX3_viewAt 48 = .ok (.invokevirtual 42, 3) := by decide +kernel
theorem dX3_viewAt_51 : decode cX3_viewAt 51 = .ok (.ifCond .eq 20, 3) := by decide +kernel
theorem dX3_viewAt_54 : decode cX3_viewAt 54 = .ok (.aload_n 0, 1) := by decide +kernel
theorem dX3_viewAt_55 : decode cX3_viewAt 55 = .ok (.getfield 27, 3) := by decide +kernel
theorem dX3_viewAt_58 : decode cX3_viewAt 58 = .ok (.iload 5, 2) := by decide +kernel
theorem dX3_viewAt_60 : decode cX3_viewAt 60 = .ok (.iaload, 1) := by decide +kernel
theorem dX3_viewAt_61 : decode cX3_viewAt 61 = .ok (.istore_n 3, 1) := by decide +kernel
theorem dX3_viewAt_62 : decode cX3_viewAt 62 = .ok (.aload_n 0, 1) := by decide +kernel
theorem dX3_viewAt_63 : decode cX3_viewAt 63 = .ok (.getfield 20, 3) := by decide +kernel
theorem dX3_viewAt_66 : decode cX3_viewAt 66 = .ok (.iload 5, 2) := by decide +kernel
theorem dX3_viewAt_68 : decode cX3_viewAt 68 = .ok (.iaload, 1) := by decide +kernel
theorem dX3_viewAt_69 : decode cX3_viewAt 69 = .ok (.istore 4, 2) := by decide +kernel
theorem dX3_viewAt_71 : decode cX3_viewAt 71 = .ok (.iinc 5 1, 3) := by decide +kernel
theorem dX3_viewAt_74 : decode cX3_viewAt 74 = .ok (.goto (-66), 3) := by decide +kernel
theorem dX3_viewAt_77 : decode cX3_viewAt 77 = .ok (.iload 4, 2) := by decide +kernel
theorem dX3_viewAt_79 : decode cX3_viewAt 79 = .ok (.ireturn, 1) := by decide +kernel
theorem dX3_contains_0 : decode cX3_contains 0 = .ok (.bipush 8, 2) := by decide +kernel
theorem dX3_contains_2 : decode cX3_contains 2 = .ok (.aload_n 0, 1) := by decide +kernel
theorem dX3_contains_3 : decode cX3_contains 3 = .ok (.getfield 27, 3) := by decide +kernel
theorem dX3_contains_6 : decode cX3_contains 6 = .ok (.iload_n 1, 1) := by decide +kernel
theorem dX3_contains_7 : decode cX3_contains 7 = .ok (.iaload, 1) := by decide +kernel
theorem dX3_contains_8 : decode cX3_contains 8 = .ok (.isub, 1) := by decide +kernel
theorem dX3_contains_9 : decode cX3_contains 9 = .ok (.istore_n 3, 1) := by decide +kernel
theorem dX3_contains_10 : decode cX3_contains 10 = .ok (.iload_n 2, 1) := by decide +kernel
theorem dX3_contains_11 : decode cX3_contains 11 = .ok (.iload_n 3, 1) := by decide +kernel
theorem dX3_contains_12 : decode cX3_contains 12 = .ok (.ishr, 1) := by decide +kernel
theorem dX3_contains_13 : decode cX3_contains 13 = .ok (.aload_n 0, 1) := by decide +kernel
theorem dX3_contains_14 : decode cX3_contains 14 = .ok (.getfield 24, 3) := by decide +kernel
theorem dX3_contains_17 : decode cX3_contains 17 = .ok (.iload_n 1, 1) := by decide +kernel
theorem dX3_contains_18 : decode cX3_contains 18 = .ok (.iaload, 1) := by decide +kernel
theorem dX3_contains_19 : decode cX3_contains 19 = .ok (.iload_n 3, 1) := by decide +kernel
theorem dX3_contains_20 : decode cX3_contains 20 = .ok (.ishr, 1) := by decide +kernel
theorem dX3_contains_21 : decode cX3_contains 21 = .ok (.if_icmp .ne 7, 3) := by decide +kernel
theorem dX3_contains_24 : decode cX3_contains 24 = .ok (.iconst 1, 1) := by decide +kernel
theorem dX3_contains_25 : decode cX3_contains 25 = .ok (.goto 4, 3) := by decide +kernel
theorem dX3_contains_28 : decode cX3_contains 28 = .ok (.iconst 0, 1) := by decide +kernel
theorem dX3_contains_29 : decode cX3_contains 29 = .ok (.ireturn, 1) := by decide +kernel
theorem dX3_countAddresses_0 : decode cX3_countAddresses 0 = .ok (.iconst 0, 1) := by decide +kernel
theorem dX3_countAddresses_1 : decode cX3_countAddresses 1 = .ok (.istore_n 3, 1) := by decide +kernel
theorem dX3_countAddresses_2 : decode cX3_countAddresses 2 = .ok (.iconst 0, 1) := by decide +kernel
theorem dX3_countAddresses_3 : decode cX3_countAddresses 3 = .ok (.istore 4, 2) := by decide +kernel
theorem dX3_countAddresses_5 : decode cX3_countAddresses 5 = .ok (.iload 4, 2) := by decide +kernel
theorem dX3_countAddresses_7 : decode cX3_countAddresses 7 = .ok (.sipush 255, 3) := by decide +kernel
theorem dX3_countAddresses_10 : decode cX3_countAddresses 10 = .ok (.if_icmp .gt 23, 3) := by decide +kernel
theorem dX3_countAddresses_13 : decode cX3_countAddresses 13 = .ok (.aload_n 0, 1) := by decide +kernel
theorem dX3_countAddresses_14 : decode cX3_countAddresses 14 = .ok (.iload 4, 2) := by decide +kernel
theorem dX3_countAddresses_16 : decode cX3_countAddresses 16 = .ok (.iload_n 2, 1) := by decide +kernel
theorem dX3_countAddresses_17 : decode cX3_countAddresses 17 = .ok (.invokevirtual 45, 3) := by decide +kernel
theorem dX3_countAddresses_20 : decode cX3_countAddresses 20 = .ok (.iload_n 1, 1) := by decide +kernel
theorem dX3_countAddresses_21 : decode cX3_countAddresses 21 = .ok (.if_icmp .ne 6, 3) := by decide +kernel
theorem dX3_countAddresses_24 : decode cX3_countAddresses 24 = .ok (.iinc 3 1, 3) := by decide +kernel
theorem dX3_countAddresses_27 : decode cX3_countAddresses 27 = .ok (.iinc 4 1, 3) := by decide +kernel
theorem dX3_countAddresses_30 : decode cX3_countAddresses 30 = .ok (.goto (-25), 3) := by decide +kernel
theorem dX3_countAddresses_33 : decode cX3_countAddresses 33 = .ok (.iload_n 3, 1) := by decide +kernel
theorem dX3_countAddresses_34 : decode cX3_countAddresses 34 = .ok (.ireturn, 1) := by decide +kernel
