theorem dX1_init_0 : decode cX1_init 0 = .ok (.aload_n 0, 1) := by decide +kernel
theorem dX1_init_1 : decode cX1_init 1 = .ok (.invokespecial 3, 3) := by decide +kernel
theorem dX1_init_4 : decode cX1_init 4 = .ok (.aload_n 0, 1) := by decide +kernel
theorem dX1_init_5 : decode cX1_init 5 = .ok (.bipush 6, 2) := by decide +kernel
theorem dX1_init_7 : decode cX1_init 7 = .ok (.newarray .int, 2) := by decide +kernel
theorem dX1_init_9 : decode cX1_init 9 = .ok (.putfield 11, 3) := by decide +kernel
theorem dX1_init_12 : decode cX1_init 12 = .ok (.aload_n 0, 1) := by decide +kernel
theorem dX1_init_13 : decode cX1_init 13 = .ok (.bipush 6, 2) := by decide +kernel
theorem dX1_init_15 : decode cX1_init 15 = .ok (.newarray .int, 2) := by decide +kernel
theorem dX1_init_17 : decode cX1_init 17 = .ok (.putfield 15, 3) := by decide +kernel
theorem dX1_init_20 : decode cX1_init 20 = .ok (.aload_n 0, 1) := by decide +kernel
theorem dX1_init_21 : decode cX1_init 21 = .ok (.bipush 6, 2) := by decide +kernel
theorem dX1_init_23 : decode cX1_init 23 = .ok (.newarray .int, 2) := by decide +kernel
theorem dX1_init_25 : decode cX1_init 25 = .ok (.putfield 18, 3) := by decide +kernel
theorem dX1_init_28 : decode cX1_init 28 = .ok (.aload_n 0, 1) := by decide +kernel
theorem dX1_init_29 : decode cX1_init 29 = .ok (.bipush 6, 2) := by decide +kernel
theorem dX1_init_31 : decode cX1_init 31 = .ok (.newarray .int, 2) := by decide +kernel
theorem dX1_init_33 : decode cX1_init 33 = .ok (.putfield 21, 3) := by decide +kernel
theorem dX1_init_36 : decode cX1_init 36 = .ok (.aload_n 0, 1) := by decide +kernel
theorem dX1_init_37 : decode cX1_init 37 = .ok (.bipush 6, 2) := by decide +kernel
theorem dX1_init_39 : decode cX1_init 39 = .ok (.newarray .int, 2) := by decide +kernel
theorem dX1_init_41 : decode cX1_init 41 = .ok (.putfield 24, 3) := by decide +kernel
theorem dX1_init_44 : decode cX1_init 44 = .ok (.aload_n 0, 1) := by decide +kernel
theorem dX1_init_45 : decode cX1_init 45 = .ok (.iconst 0, 1) := by decide +kernel
theorem dX1_init_46 : decode cX1_init 46 = .ok (.putfield 27, 3) := by decide +kernel
theorem dX1_init_49 : decode cX1_init 49 = .ok (.aload_n 0, 1) := by decide +kernel
theorem dX1_init_50 : decode cX1_init 50 = .ok (.iconst 0, 1) := by decide +kernel
theorem dX1_init_51 : decode cX1_init 51 = .ok (.putfield 31, 3) := by decide +kernel
theorem dX1_init_54 : decode cX1_init 54 = .ok (.aload_n 0, 1) := by decide +kernel
theorem dX1_init_55 : decode cX1_init 55 = .ok (.iconst 3, 1) := by decide +kernel
theorem dX1_init_56 : decode cX1_init 56 = .ok (.putfield 34, 3) := by decide +kernel
theorem dX1_init_59 : decode cX1_init 59 = .ok (.return_, 1) := by decide +kernel
theorem dX1_find_0 : decode cX1_find 0 = .ok (.iconst 0, 1) := by decide +kernel
theorem dX1_find_1 : decode cX1_find 1 = .ok (.istore 4, 2) := by decide +kernel
theorem dX1_find_3 : decode cX1_find 3 = .ok (.iload 4, 2) := by decide +kernel
theorem dX1_find_5 : decode cX1_find 5 = .ok (.aload_n 0, 1) := by decide +kernel
theorem dX1_find_6 : decode cX1_find 6 = .ok (.getfield 27, 3) := by decide +kernel
theorem dX1_find_9 : decode cX1_find 9 = .ok (.if_icmp .ge 45, 3) := by decide +kernel
theorem dX1_find_12 : decode cX1_find 12 = .ok (.aload_n 0, 1) := by decide +kernel
theorem dX1_find_13 : decode cX1_find 13 = .ok (.getfield 11, 3) := by decide +kernel
theorem dX1_find_16 : decode cX1_find 16 = .ok (.iload 4, 2) := by decide +kernel
theorem dX1_find_18 : decode cX1_find 18 = .ok (.iaload, 1) := by decide +kernel
theorem dX1_find_19 : decode cX1_find 19 = .ok (.iload_n 1, 1) := by decide +kernel
theorem dX1_find_20 : decode cX1_find 20 = .ok (.if_icmp .ne 28, 3) := by decide +kernel
theorem dX1_find_23 : decode cX1_find 23 = .ok (.aload_n 0, 1) := by decide +kernel
theorem dX1_find_24 : decode cX1_find 24 = .ok (.getfield 15, 3) := by decide +kernel
theorem dX1_find_27 : decode cX1_find 27 = .ok (.iload 4, 2) := by decide +kernel
theorem dX1_find_29 : decode cX1_find 29 = .ok (.iaload, 1) := by decide +kernel
theorem dX1_find_30 : decode cX1_find 30 = .ok (.iload_n 2, 1) := by decide +kernel
theorem dX1_find_31 : decode cX1_find 31 = .ok (.if_icmp .ne 17, 3) := by decide +kernel
theorem dX1_find_34 : decode cX1_find 34 = .ok (.aload_n 0, 1) := by decide +kernel
theorem dX1_find_35 : decode cX1_find 35 = .ok (.getfield 18, 3) := by decide +kernel
theorem dX1_find_38 : decode cX1_find 38 = .ok (.iload 4, 2) := by decide +kernel
theorem dX1_find_40 : decode cX1_find 40 = .ok (.iaload, 1) := by decide +kernel
theorem dX1_find_41 : decode cX1_find 41 = .ok (.iload_n 3, 1) := by decide +kernel
theorem dX1_find_42 : decode cX1_find 42 = .ok (.if_icmp .ne 6, 3) := by decide +kernel
theorem dX1_find_45 : decode cX1_find 45 = .ok (.iload 4, 2) := by decide +kernel
theorem dX1_find_47 : decode cX1_find 47 = .ok (.ireturn, 1) := by decide +kernel
theorem dX1_find_48 : decode cX1_find 48 = .ok (.iinc 4 1, 3) := by decide +kernel
theorem dX1_find_51 : decode cX1_find 51 = .ok (.goto (-48), 3) := by decide +kernel
theorem dX1_find_54 : decode cX1_find 54 = .ok (.iconst (-1), 1) := by decide +kernel
theorem dX1_find_55 : decode cX1_find 55 = .ok (.ireturn, 1) := by decide +kernel
theorem dX1_isFresh_0 : decode cX1_isFresh 0 = .ok (.iload_n 2, 1) := by decide +kernel
theorem dX1_isFresh_1 : decode cX1_isFresh 1 = .ok (.aload_n 0, 1) := by decide +kernel
theorem dX1_isFresh_2 : decode cX1_isFresh 2 = .ok (.getfield 24, 3) := by decide +kernel
theorem dX1_isFresh_5 : decode cX1_isFresh 5 = .ok (.iload_n 1, 1) := by decide +kernel
theorem dX1_isFresh_6 : decode cX1_isFresh 6 = .ok (.iaload, 1) := by decide +kernel
theorem dX1_isFresh_7 : decode cX1_isFresh 7 = .ok (.isub, 1) := by decide +kernel
theorem dX1_isFresh_8 : decode cX1_isFresh 8 = .ok (.aload_n 0, 1) := by decide +kernel
theorem dX1_isFresh_9 : decode cX1_isFresh 9 = .ok (.getfield 34, 3) := by decide +kernel
theorem dX1_isFresh_12 : decode cX1_isFresh 12 = .ok (.if_icmp .gt 7, 3) := by decide +kernel
theorem dX1_isFresh_15 : decode cX1_isFresh 15 = .ok (.iconst 1, 1) := by decide +kernel
theorem dX1_isFresh_16 : decode cX1_isFresh 16 = .ok (.goto 4, 3) := by decide +kernel
theorem dX1_isFresh_19 : decode cX1_isFresh 19 = .ok (.iconst 0, 1) := by decide +kernel
theorem dX1_isFresh_20 : decode cX1_isFresh 20 = .ok (.ireturn, 1) := by decide +kernel
theorem dX1_keep_0 : decode cX1_keep 0 = .ok (.aload_n 0, 1) := by decide +kernel
theorem dX1_keep_1 : decode cX1_keep 1 = .ok (.iload_n 1, 1) := by decide +kernel
theorem dX1_keep_2 : decode cX1_keep 2 = .ok (.iload_n 2, 1) := by decide +kernel
theorem dX1_keep_3 : decode cX1_keep 3 = .ok (.iload_n 3, 1) := by decide +kernel
theorem dX1_keep_4 : decode cX1_keep 4 = .ok (.invokevirtual 37, 3) := by decide +kernel
theorem dX1_keep_7 : decode cX1_keep 7 = .ok (.istore 6, 2) := by decide +kernel
theorem dX1_keep_9 : decode cX1_keep 9 = .ok (.iload 6, 2) := by decide +kernel
theorem dX1_keep_11 : decode cX1_keep 11 = .ok (.iconst (-1), 1) := by decide +kernel
theorem dX1_keep_12 : decode cX1_keep 12 = .ok (.if_icmp .eq 12, 3) := by decide +kernel
theorem dX1_keep_15 : decode cX1_keep 15 = .ok (.aload_n 0, 1) := by decide +kernel
theorem dX1_keep_16 : decode cX1_keep 16 = .ok (.iload 6, 2) := by decide +kernel
theorem dX1_keep_18 : decode cX1_keep 18 = .ok (.invokevirtual 41, 3) := by decide +kernel
theorem dX1_keep_21 : decode cX1_keep 21 = .ok (.goto 17, 3) := by decide +kernel
theorem dX1_keep_24 : decode cX1_keep 24 = .ok (.aload_n 0, 1) := by decide +kernel
theorem dX1_keep_25 : decode cX1_keep 25 = .ok (.getfield 27, 3) := by decide +kernel
theorem dX1_keep_28 : decode cX1_keep 28 = .ok (.bipush 6, 2) := by decide +kernel
theorem dX1_keep_30 : decode cX1_keep 30 = .ok (.if_icmp .lt 8, 3) := by decide +kernel
theorem dX1_keep_33 : decode cX1_keep 33 = .ok (.aload_n 0, 1) := by decide +kernel
theorem dX1_keep_34 : decode cX1_keep 34 = .ok (.iconst 0, 1) := by decide +kernel
theorem dX1_keep_35 : decode cX1_keep 35 = .ok (.invokevirtual 41, 3) := by decide +kernel
theorem dX1_keep_38 : decode cX1_keep 38 = .ok (.aload_n 0, 1) := by decide +kernel
theorem dX1_keep_39 : decode cX1_keep 39 = .ok (.getfield 11, 3) := by decide +kernel
theorem dX1_keep_42 : decode cX1_keep 42 = .ok (.aload_n 0, 1) := by decide +kernel
theorem dX1_keep_43 : decode cX1_keep 43 = .ok (.getfield 27, 3) := by decide +kernel
theorem dX1_keep_46 : decode cX1_keep 46 = .ok (.iload_n 1, 1) := by decide +kernel
theorem dX1_keep_47 : decode cX1_keep 47 = .ok (.iastore, 1) := by decide +kernel
theorem dX1_keep_48 : decode cX1_keep 48 = .ok (.aload_n 0, 1) := by decide +kernel
theorem dX1_keep_49 : decode cX1_keep 49 = .ok (.getfield 15, 3) := by decide +kernel
theorem dX1_keep_52 : decode cX1_keep 52 = .ok (.aload_n 0, 1) := by decide +kernel
theorem dX1_keep_53 : decode cX1_keep 53 = .ok (.getfield 27, 3) := by decide +kernel
theorem dX1_keep_56 : decode cX1_keep 56 = .ok (.iload_n 2, 1) := by decide +kernel
theorem dX1_keep_57 : decode cX1_keep 57 = .ok (.iastore, 1) := by decide +kernel
theorem dX1_keep_58 : decode cX1_keep 58 = .ok (.aload_n 0, 1) := by decide +kernel
theorem dX1_keep_59 : decode cX1_keep 59 = .ok (.getfield 18, 3) := by decide +kernel
theorem dX1_keep_62 : decode cX1_keep 62 = .ok (.aload_n 0, 1) := by decide +kernel
theorem dX1_keep_63 : decode cX1_keep 63 = .ok (.getfield 27, 3) := by decide +kernel
theorem dX1_keep_66 : decode cX1_keep 66 = .ok (.iload_n 3, 1) := by decide +kernel
theorem dX1_keep_67 : decode cX1_keep 67 = .ok (.iastore, 1) := by decide +kernel
theorem dX1_keep_68 : decode cX1_keep 68 = .ok (.aload_n 0, 1) := by decide +kernel
theorem dX1_keep_69 : decode cX1_keep 69 = .ok (.getfield 21, 3) := by decide +kernel
theorem dX1_keep_72 : decode cX1_keep 72 = .ok (.aload_n 0, 1) := by decide +kernel
theorem dX1_keep_73 : decode cX1_keep 73 = .ok (.getfield 27, 3) := by decide +kernel
theorem dX1_keep_76 : decode cX1_keep 76 = .ok (.iload 4, 2) := by decide +kernel
theorem dX1_keep_78 : decode cX1_keep 78 = .ok (.iastore, 1) := by decide +kernel
theorem dX1_keep_79 : decode cX1_keep 79 = .ok (.aload_n 0, 1) := by decide +kernel
theorem dX1_keep_80 : decode cX1_keep 80 = .ok (.getfield 24, 3) := by decide +kernel
theorem dX1_keep_83 : decode cX1_keep 83 = .ok (.aload_n 0, 1) := by decide +kernel
theorem dX1_keep_84 : decode cX1_keep 84 = .ok (.getfield 27, 3) := by decide +kernel
theorem dX1_keep_87 : decode cX1_keep 87 = .ok (.iload 5, 2) := by decide +kernel
theorem dX1_keep_89 : decode cX1_keep 89 = .ok (.iastore, 1) := by decide +kernel
theorem dX1_keep_90 : decode cX1_keep 90 = .ok (.aload_n 0, 1) := by decide +kernel
theorem dX1_keep_91 : decode cX1_keep 91 = .ok (.dup, 1) := by decide +kernel
theorem dX1_keep_92 : decode cX1_keep 92 = .ok (.getfield 27, 3) := by decide +kernel
theorem dX1_keep_95 : decode cX1_keep 95 = .ok (.iconst 1, 1) := by decide +kernel
theorem dX1_keep_96 : decode cX1_keep 96 = .ok (.iadd, 1) := by decide +kernel
theorem dX1_keep_97 : decode cX1_keep 97 = .ok (.putfield 27, 3) := by decide +kernel
theorem dX1_keep_100 : decode cX1_keep 100 = .ok (.return_, 1) := by decide +kernel
theorem dX1_forget_0 : decode cX1_forget 0 = .ok (.iload_n 1, 1) := by decide +kernel
theorem dX1_forget_1 : decode cX1_forget 1 = .ok (.istore_n 2, 1) := by decide +kernel
theorem dX1_forget_2 : decode cX1_forget 2 = .ok (.iload_n 2, 1) := by decide +kernel
theorem dX1_forget_3 : decode cX1_forget 3 = .ok (.iconst 1, 1) := by decide +kernel
theorem dX1_forget_4 : decode cX1_forget 4 = .ok (.iadd, 1) := by decide +kernel
theorem dX1_forget_5 : decode cX1_forget 5 = .ok (.aload_n 0, 1) := by decide +kernel
theorem dX1_forget_6 : decode cX1_forget 6 = .ok (.getfield 27, 3) := by decide +kernel
theorem dX1_forget_9 : decode cX1_forget 9 = .ok (.if_icmp .ge 79, 3) := by decide +kernel
theorem dX1_forget_12 : decode cX1_forget 12 = .ok (.aload_n 0, 1) := by decide +kernel
theorem dX1_forget_13 : decode cX1_forget 13 = .ok (.getfield 11, 3) := by decide +kernel
theorem dX1_forget_16 : decode cX1_forget 16 = .ok (.iload_n 2, 1) := by decide +kernel
theorem dX1_forget_17 : decode cX1_forget 17 = .ok (.aload_n 0, 1) := by decide +kernel
theorem dX1_forget_18 : decode cX1_forget 18 = .ok (.getfield 11, 3) := by decide +kernel
theorem dX1_forget_21 : decode cX1_forget 21 = .ok (.iload_n 2, 1) := by decide +kernel
theorem dX1_forget_22 : decode cX1_forget 22 = .ok (.iconst 1, 1) := by decide +kernel
theorem dX1_forget_23 : decode cX1_forget 23 = .ok (.iadd, 1) := by decide +kernel
theorem dX1_forget_24 : decode cX1_forget 24 = .ok (.iaload, 1) := by decide +kernel
theorem dX1_forget_25 : decode cX1_forget 25 = .ok (.iastore, 1) := by decide +kernel
theorem dX1_forget_26 : decode cX1_forget 26 = .ok (.aload_n 0, 1) := by decide +kernel
theorem dX1_forget_27 : decode cX1_forget 27 = .ok (.getfield 15, 3) := by decide +kernel
theorem dX1_forget_30 : decode cX1_forget 30 = .ok (.iload_n 2, 1) := by decide +kernel
theorem dX1_forget_31 : decode cX1_forget 31 = .ok (.aload_n 0, 1) := by decide +kernel
theorem dX1_forget_32 : decode cX1_forget 32 = .ok (.getfield 15, 3) := by decide +kernel
theorem dX1_forget_35 : decode cX1_forget 35 = .ok (.iload_n 2, 1) := by decide +kernel
theorem dX1_forget_36 : decode cX1_forget 36 = .ok (.iconst 1, 1) := by decide +kernel
theorem dX1_forget_37 : decode cX1_forget 37 = .ok (.iadd, 1) := by decide +kernel
theorem dX1_forget_38 : decode cX1_forget 38 = .ok (.iaload, 1) := by decide +kernel
theorem dX1_forget_39 : decode cX1_forget 39 = .ok (.iastore, 1) := by decide +kernel
theorem dX1_forget_40 : decode cX1_forget 40 = .ok (.aload_n 0, 1) := by decide +kernel
theorem dX1_forget_41 : decode cX1_forget 41 = .ok (.getfield 18, 3) := by decide +kernel
theorem dX1_forget_44 : decode cX1_forget 44 = .ok (.iload_n 2, 1) := by decide +kernel
theorem dX1_forget_45 : decode cX1_forget 45 = .ok (.aload_n 0, 1) := by decide +kernel
theorem dX1_forget_46 : decode cX1_forget 46 = .ok (.getfield 18, 3) := by decide +kernel
theorem dX1_forget_49 : decode cX1_forget 49 = .ok (.iload_n 2, 1) := by decide +kernel
theorem dX1_forget_50 : decode cX1_forget 50 = .ok (.iconst 1, 1) := by decide +kernel
theorem dX1_forget_51 : decode cX1_forget 51 = .ok (.iadd, 1) := by decide +kernel
theorem dX1_forget_52 : decode cX1_forget 52 = .ok (.iaload, 1) := by decide +kernel
theorem dX1_forget_53 : decode cX1_forget 53 = .ok (.iastore, 1) := by decide +kernel
theorem dX1_forget_54 : decode cX1_forget 54 = .ok (.aload_n 0, 1) := by decide +kernel
theorem dX1_forget_55 : decode cX1_forget 55 = .ok (.getfield 21, 3) := by decide +kernel
theorem dX1_forget_58 : decode cX1_forget 58 = .ok (.iload_n 2, 1) := by decide +kernel
theorem dX1_forget_59 : decode cX1_forget 59 = .ok (.aload_n 0, 1) := by decide +kernel
theorem dX1_forget_60 : decode cX1_forget 60 = .ok (.getfield 21, 3) := by decide +kernel
theorem dX1_forget_63 : decode cX1_forget 63 = .ok (.iload_n 2, 1) := by decide +kernel
theorem dX1_forget_64 : decode cX1_forget 64 = .ok (.iconst 1, 1) := by decide +kernel
theorem dX1_forget_65 : decode cX1_forget 65 = .ok (.iadd, 1) := by decide +kernel
theorem dX1_forget_66 : decode cX1_forget 66 = .ok (.iaload, 1) := by decide +kernel
theorem dX1_forget_67 : decode cX1_forget 67 = .ok (.iastore, 1) := by decide +kernel
theorem dX1_forget_68 : decode cX1_forget 68 = .ok (.aload_n 0, 1) := by decide +kernel
theorem dX1_forget_69 : decode cX1_forget 69 = .ok (.getfield 24, 3) := by decide +kernel
theorem dX1_forget_72 : decode cX1_forget 72 = .ok (.iload_n 2, 1) := by decide +kernel
theorem dX1_forget_73 : decode cX1_forget 73 = .ok (.aload_n 0, 1) := by decide +kernel
theorem dX1_forget_74 : decode cX1_forget 74 = .ok (.getfield 24, 3) := by decide +kernel
theorem dX1_forget_77 : decode cX1_forget 77 = .ok (.iload_n 2, 1) := by decide +kernel
theorem dX1_forget_78 : decode cX1_forget 78 = .ok (.iconst 1, 1) := by decide +kernel
theorem dX1_forget_79 : decode cX1_forget 79 = .ok (.iadd, 1) := by decide +kernel
theorem dX1_forget_80 : decode cX1_forget 80 = .ok (.iaload, 1) := by decide +kernel
theorem dX1_forget_81 : decode cX1_forget 81 = .ok (.iastore, 1) := by decide +kernel
theorem dX1_forget_82 : decode cX1_forget 82 = .ok (.iinc 2 1, 3) := by decide +kernel
theorem dX1_forget_85 : decode cX1_forget 85 = .ok (.goto (-83), 3) := by decide +kernel
theorem dX1_forget_88 : decode cX1_forget 88 = .ok (.aload_n 0, 1) := by decide +kernel
theorem dX1_forget_89 : decode cX1_forget 89 = .ok (.dup, 1) := by decide +kernel
theorem dX1_forget_90 : decode cX1_forget 90 = .ok (.getfield 27, 3) := by decide +kernel
theorem dX1_forget_93 : decode cX1_forget 93 = .ok (.iconst 1, 1) := by decide +kernel
theorem dX1_forget_94 : decode cX1_forget 94 = .ok (.isub, 1) := by decide +kernel
theorem dX1_forget_95 : decode cX1_forget 95 = .ok (.putfield 27, 3) := by decide +kernel
theorem dX1_forget_98 : decode cX1_forget 98 = .ok (.return_, 1) := by decide +kernel
