theorem dX7_init_0 : decode cX7_init 0 = .ok (.aload_n 0, 1) := by decide +kernel
theorem dX7_init_1 : decode cX7_init 1 = .ok (.invokespecial 3, 3) := by decide +kernel
theorem dX7_init_4 : decode cX7_init 4 = .ok (.aload_n 0, 1) := by decide +kernel
theorem dX7_init_5 : decode cX7_init 5 = .ok (.new 9, 3) := by decide +kernel
theorem dX7_init_8 : decode cX7_init 8 = .ok (.dup, 1) := by decide +kernel
theorem dX7_init_9 : decode cX7_init 9 = .ok (.bipush 10, 2) := by decide +kernel
theorem dX7_init_11 : decode cX7_init 11 = .ok (.invokespecial 13, 3) := by decide +kernel
theorem dX7_init_14 : decode cX7_init 14 = .ok (.putfield 16, 3) := by decide +kernel
theorem dX7_init_17 : decode cX7_init 17 = .ok (.aload_n 0, 1) := by decide +kernel
theorem dX7_init_18 : decode cX7_init 18 = .ok (.bipush 10, 2) := by decide +kernel
theorem dX7_init_20 : decode cX7_init 20 = .ok (.newarray .int, 2) := by decide +kernel
theorem dX7_init_22 : decode cX7_init 22 = .ok (.putfield 20, 3) := by decide +kernel
theorem dX7_init_25 : decode cX7_init 25 = .ok (.aload_n 0, 1) := by decide +kernel
theorem dX7_init_26 : decode cX7_init 26 = .ok (.bipush 10, 2) := by decide +kernel
theorem dX7_init_28 : decode cX7_init 28 = .ok (.newarray .int, 2) := by decide +kernel
theorem dX7_init_30 : decode cX7_init 30 = .ok (.putfield 24, 3) := by decide +kernel
theorem dX7_init_33 : decode cX7_init 33 = .ok (.return_, 1) := by decide +kernel
theorem dX7_make_0 : decode cX7_make 0 = .ok (.aload_n 0, 1) := by decide +kernel
theorem dX7_make_1 : decode cX7_make 1 = .ok (.getfield 16, 3) := by decide +kernel
theorem dX7_make_4 : decode cX7_make 4 = .ok (.iload_n 3, 1) := by decide +kernel
theorem dX7_make_5 : decode cX7_make 5 = .ok (.invokevirtual 27, 3) := by decide +kernel
theorem dX7_make_8 : decode cX7_make 8 = .ok (.istore 4, 2) := by decide +kernel
theorem dX7_make_10 : decode cX7_make 10 = .ok (.iload 4, 2) := by decide +kernel
theorem dX7_make_12 : decode cX7_make 12 = .ok (.iconst (-1), 1) := by decide +kernel
theorem dX7_make_13 : decode cX7_make 13 = .ok (.if_icmp .eq 19, 3) := by decide +kernel
theorem dX7_make_16 : decode cX7_make 16 = .ok (.aload_n 0, 1) := by decide +kernel
theorem dX7_make_17 : decode cX7_make 17 = .ok (.getfield 20, 3) := by decide +kernel
theorem dX7_make_20 : decode cX7_make 20 = .ok (.iload 4, 2) := by decide +kernel
theorem dX7_make_22 : decode cX7_make 22 = .ok (.iload_n 1, 1) := by decide +kernel
theorem dX7_make_23 : decode cX7_make 23 = .ok (.iastore, 1) := by decide +kernel
theorem dX7_make_24 : decode cX7_make 24 = .ok (.aload_n 0, 1) := by decide +kernel
theorem dX7_make_25 : decode cX7_make 25 = .ok (.getfield 24, 3) := by decide +kernel
theorem dX7_make_28 : decode cX7_make 28 = .ok (.iload 4, 2) := by decide +kernel
theorem dX7_make_30 : decode cX7_make 30 = .ok (.iload_n 2, 1) := by decide +kernel
theorem dX7_make_31 : decode cX7_make 31 = .ok (.iastore, 1) := by decide +kernel
theorem dX7_make_32 : decode cX7_make 32 = .ok (.iload 4, 2) := by decide +kernel
theorem dX7_make_34 : decode cX7_make 34 = .ok (.ireturn, 1) := by decide +kernel
theorem dX7_find_0 : decode cX7_find 0 = .ok (.iconst 0, 1) := by decide +kernel
theorem dX7_find_1 : decode cX7_find 1 = .ok (.istore 4, 2) := by decide +kernel
theorem dX7_find_3 : decode cX7_find 3 = .ok (.iload 4, 2) := by decide +kernel
theorem dX7_find_5 : decode cX7_find 5 = .ok (.aload_n 0, 1) := by decide +kernel
theorem dX7_find_6 : decode cX7_find 6 = .ok (.getfield 16, 3) := by decide +kernel
theorem dX7_find_9 : decode cX7_find 9 = .ok (.getfield 31, 3) := by decide +kernel
theorem dX7_find_12 : decode cX7_find 12 = .ok (.if_icmp .ge 47, 3) := by decide +kernel
theorem dX7_find_15 : decode cX7_find 15 = .ok (.aload_n 0, 1) := by decide +kernel
theorem dX7_find_16 : decode cX7_find 16 = .ok (.getfield 20, 3) := by decide +kernel
theorem dX7_find_19 : decode cX7_find 19 = .ok (.iload 4, 2) := by decide +kernel
theorem dX7_find_21 : decode cX7_find 21 = .ok (.iaload, 1) := by decide +kernel
theorem dX7_find_22 : decode cX7_find 22 = .ok (.iload_n 1, 1) := by decide +kernel
theorem dX7_find_23 : decode cX7_find 23 = .ok (.if_icmp .ne 30, 3) := by decide +kernel
theorem dX7_find_26 : decode cX7_find 26 = .ok (.aload_n 0, 1) := by decide +kernel
theorem dX7_find_27 : decode cX7_find 27 = .ok (.getfield 24, 3) := by decide +kernel
theorem dX7_find_30 : decode cX7_find 30 = .ok (.iload 4, 2) := by decide +kernel
theorem dX7_find_32 : decode cX7_find 32 = .ok (.iaload, 1) := by decide +kernel
theorem dX7_find_33 : decode cX7_find 33 = .ok (.iload_n 2, 1) := by decide +kernel
theorem dX7_find_34 : decode cX7_find 34 = .ok (.if_icmp .ne 19, 3) := by decide +kernel
theorem dX7_find_37 : decode cX7_find 37 = .ok (.aload_n 0, 1) := by decide +kernel
theorem dX7_find_38 : decode cX7_find 38 = .ok (.getfield 16, 3) := by decide +kernel
theorem dX7_find_41 : decode cX7_find 41 = .ok (.iload 4, 2) := by decide +kernel
theorem dX7_find_43 : decode cX7_find 43 = .ok (.iload_n 3, 1) := by decide +kernel
theorem dX7_find_44 : decode cX7_find 44 = .ok (.invokevirtual 35, 3) := by decide +kernel
theorem dX7_find_47 : decode cX7_find 47 = .ok (.ifCond .eq 6, 3) := by decide +kernel
theorem dX7_find_50 : decode cX7_find 50 = .ok (.iload 4, 2) := by decide +kernel
theorem dX7_find_52 : decode cX7_find 52 = .ok (.ireturn, 1) := by decide +kernel
theorem dX7_find_53 : decode cX7_find 53 = .ok (.iinc 4 1, 3) := by decide +kernel
theorem dX7_find_56 : decode cX7_find 56 = .ok (.goto (-53), 3) := by decide +kernel
theorem dX7_find_59 : decode cX7_find 59 = .ok (.iconst (-1), 1) := by decide +kernel
theorem dX7_find_60 : decode cX7_find 60 = .ok (.ireturn, 1) := by decide +kernel
theorem dX7_responsible_0 : decode cX7_responsible 0 = .ok (.iconst (-1), 1) := by decide +kernel
theorem dX7_responsible_1 : decode cX7_responsible 1 = .ok (.istore 4, 2) := by decide +kernel
theorem dX7_responsible_3 : decode cX7_responsible 3 = .ok (.iconst 0, 1) := by decide +kernel
theorem dX7_responsible_4 : decode cX7_responsible 4 = .ok (.istore 5, 2) := by decide +kernel
theorem dX7_responsible_6 : decode cX7_responsible 6 = .ok (.iload 5, 2) := by decide +kernel
theorem dX7_responsible_8 : decode cX7_responsible 8 = .ok (.aload_n 0, 1) := by decide +kernel
theorem dX7_responsible_9 : decode cX7_responsible 9 = .ok (.getfield 16, 3) := by decide +kernel
theorem dX7_responsible_12 : decode cX7_responsible 12 = .ok (.getfield 31, 3) := by decide +kernel
theorem dX7_responsible_15 : decode cX7_responsible 15 = .ok (.if_icmp .ge 90, 3) := by decide +kernel
theorem dX7_responsible_18 : decode cX7_responsible 18 = .ok (.aload_n 0, 1) := by decide +kernel
theorem dX7_responsible_19 : decode cX7_responsible 19 = .ok (.getfield 20, 3) := by decide +kernel
theorem dX7_responsible_22 : decode cX7_responsible 22 = .ok (.iload 5, 2) := by decide +kernel
theorem dX7_responsible_24 : decode cX7_responsible 24 = .ok (.iaload, 1) := by decide +kernel
theorem dX7_responsible_25 : decode cX7_responsible 25 = .ok (.iload_n 1, 1) := by decide +kernel
theorem dX7_responsible_26 : decode cX7_responsible 26 = .ok (.if_icmp .eq 13, 3) := by decide +kernel
theorem dX7_responsible_29 : decode cX7_responsible 29 = .ok (.aload_n 0, 1) := by decide +kernel
theorem dX7_responsible_30 : decode cX7_responsible 30 = .ok (.getfield 20, 3) := by decide +kernel
theorem dX7_responsible_33 : decode cX7_responsible 33 = .ok (.iload 5, 2) := by decide +kernel
theorem dX7_responsible_35 : decode cX7_responsible 35 = .ok (.iaload, 1) := by decide +kernel
theorem dX7_responsible_36 : decode cX7_responsible 36 = .ok (.ifCond .ne 7, 3) := by decide +kernel
theorem dX7_responsible_39 : decode cX7_responsible 39 = .ok (.iconst 1, 1) := by decide +kernel
theorem dX7_responsible_40 : decode cX7_responsible 40 = .ok (.goto 4, 3) := by decide +kernel
theorem dX7_responsible_43 : decode cX7_responsible 43 = .ok (.iconst 0, 1) := by decide +kernel
theorem dX7_responsible_44 : decode cX7_responsible 44 = .ok (.istore 6, 2) := by decide +kernel
theorem dX7_responsible_46 : decode cX7_responsible 46 = .ok (.iload 6, 2) := by decide +kernel
theorem dX7_responsible_48 : decode cX7_responsible 48 = .ok (.ifCond .eq 51, 3) := by decide +kernel
theorem dX7_responsible_51 : decode cX7_responsible 51 = .ok (.iload_n 2, 1) := by decide +kernel
theorem dX7_responsible_52 : decode cX7_responsible 52 = .ok (.aload_n 0, 1) := by decide +kernel
theorem dX7_responsible_53 : decode cX7_responsible 53 = .ok (.getfield 24, 3) := by decide +kernel
theorem dX7_responsible_56 : decode cX7_responsible 56 = .ok (.iload 5, 2) := by decide +kernel
theorem dX7_responsible_58 : decode cX7_responsible 58 = .ok (.iaload, 1) := by decide +kernel
theorem dX7_responsible_59 : decode cX7_responsible 59 = .ok (.invokestatic 39, 3) := by decide +kernel
theorem dX7_responsible_62 : decode cX7_responsible 62 = .ok (.ifCond .eq 37, 3) := by decide +kernel
theorem dX7_responsible_65 : decode cX7_responsible 65 = .ok (.aload_n 0, 1) := by decide +kernel
theorem dX7_responsible_66 : decode cX7_responsible 66 = .ok (.getfield 16, 3) := by decide +kernel
theorem dX7_responsible_69 : decode cX7_responsible 69 = .ok (.iload 5, 2) := by decide +kernel
theorem dX7_responsible_71 : decode cX7_responsible 71 = .ok (.iload_n 3, 1) := by decide +kernel
theorem dX7_responsible_72 : decode cX7_responsible 72 = .ok (.invokevirtual 35, 3) := by decide +kernel
theorem dX7_responsible_75 : decode cX7_responsible 75 = .ok (.ifCond .eq 24, 3) := by decide +kernel
theorem dX7_responsible_78 : decode cX7_responsible 78 = .ok (.iload 4, 2) := by decide +kernel
theorem dX7_responsible_80 : decode cX7_responsible 80 = .ok (.iconst (-1), 1) := by decide +kernel
theorem dX7_responsible_81 : decode cX7_responsible 81 = .ok (.if_icmp .eq 14, 3) := by decide +kernel
theorem dX7_responsible_84 : decode cX7_responsible 84 = .ok (.aload_n 0, 1) := by decide +kernel
theorem dX7_responsible_85 : decode cX7_responsible 85 = .ok (.iload 5, 2) := by decide +kernel
theorem dX7_responsible_87 : decode cX7_responsible 87 = .ok (.iload 4, 2) := by decide +kernel
theorem dX7_responsible_89 : decode cX7_responsible 89 = .ok (.invokevirtual 44, 3) := by decide +kernel
theorem dX7_responsible_92 : decode cX7_responsible 92 = .ok (.ifCond .eq 7, 3) := by decide +kernel
theorem dX7_responsible_95 : decode cX7_responsible 95 = .ok (.iload 5, 2) := by decide +kernel
theorem dX7_responsible_97 : decode cX7_responsible 97 = .ok (.istore 4, 2) := by decide +kernel
theorem dX7_responsible_99 : decode cX7_responsible 99 = .ok (.iinc 5 1, 3) := by decide +kernel
theorem dX7_responsible_102 : decode cX7_responsible 102 = .ok (.goto (-96), 3) := by decide +kernel
theorem dX7_responsible_105 : decode cX7_responsible 105 = .ok (.iload 4, 2) := by decide +kernel
theorem dX7_responsible_107 : decode cX7_responsible 107 = .ok (.ireturn, 1) := by decide +kernel
theorem dX7_hides_0 : decode cX7_hides 0 = .ok (.aload_n 0, 1) := by decide +kernel
theorem dX7_hides_1 : decode cX7_hides 1 = .ok (.getfield 24, 3) := by decide +kernel
theorem dX7_hides_4 : decode cX7_hides 4 = .ok (.iload_n 1, 1) := by decide +kernel
theorem dX7_hides_5 : decode cX7_hides 5 = .ok (.iaload, 1) := by decide +kernel
theorem dX7_hides_6 : decode cX7_hides 6 = .ok (.aload_n 0, 1) := by decide +kernel
theorem dX7_hides_7 : decode cX7_hides 7 = .ok (.getfield 24, 3) := by decide +kernel
theorem dX7_hides_10 : decode cX7_hides 10 = .ok (.iload_n 2, 1) := by decide +kernel
theorem dX7_hides_11 : decode cX7_hides 11 = .ok (.iaload, 1) := by decide +kernel
theorem dX7_hides_12 : decode cX7_hides 12 = .ok (.if_icmp .ne 18, 3) := by decide +kernel
theorem dX7_hides_15 : decode cX7_hides 15 = .ok (.aload_n 0, 1) := by decide +kernel
theorem dX7_hides_16 : decode cX7_hides 16 = .ok (.getfield 20, 3) := by decide +kernel
theorem dX7_hides_19 : decode cX7_hides 19 = .ok (.iload_n 1, 1) := by decide +kernel
theorem dX7_hides_20 : decode cX7_hides 20 = .ok (.iaload, 1) := by decide +kernel
theorem dX7_hides_21 : decode cX7_hides 21 = .ok (.ifCond .eq 7, 3) := by decide +kernel
theorem dX7_hides_24 : decode cX7_hides 24 = .ok (.iconst 1, 1) := by decide +kernel
theorem dX7_hides_25 : decode cX7_hides 25 = .ok (.goto 4, 3) := by decide +kernel
theorem dX7_hides_28 : decode cX7_hides 28 = .ok (.iconst 0, 1) := by decide +kernel
theorem dX7_hides_29 : decode cX7_hides 29 = .ok (.ireturn, 1) := by decide +kernel
theorem dX7_hides_30 : decode cX7_hides 30 = .ok (.aload_n 0, 1) := by decide +kernel
theorem dX7_hides_31 : decode cX7_hides 31 = .ok (.getfield 24, 3) := by decide +kernel
theorem dX7_hides_34 : decode cX7_hides 34 = .ok (.iload_n 1, 1) := by decide +kernel
theorem dX7_hides_35 : decode cX7_hides 35 = .ok (.iaload, 1) := by decide +kernel
theorem dX7_hides_36 : decode cX7_hides 36 = .ok (.aload_n 0, 1) := by decide +kernel
theorem dX7_hides_37 : decode cX7_hides 37 = .ok (.getfield 24, 3) := by decide +kernel
theorem dX7_hides_40 : decode cX7_hides 40 = .ok (.iload_n 2, 1) := by decide +kernel
theorem dX7_hides_41 : decode cX7_hides 41 = .ok (.iaload, 1) := by decide +kernel
theorem dX7_hides_42 : decode cX7_hides 42 = .ok (.invokestatic 47, 3) := by decide +kernel
theorem dX7_hides_45 : decode cX7_hides 45 = .ok (.ireturn, 1) := by decide +kernel
