theorem dX4_init_0 : decode cX4_init 0 = .ok (.aload_n 0, 1) := by decide +kernel
theorem dX4_init_1 : decode cX4_init 1 = .ok (.invokespecial 3, 3) := by decide +kernel
theorem dX4_init_4 : decode cX4_init 4 = .ok (.aload_n 0, 1) := by decide +kernel
theorem dX4_init_5 : decode cX4_init 5 = .ok (.new 9, 3) := by decide +kernel
theorem dX4_init_8 : decode cX4_init 8 = .ok (.dup, 1) := by decide +kernel
theorem dX4_init_9 : decode cX4_init 9 = .ok (.bipush 70, 2) := by decide +kernel
theorem dX4_init_11 : decode cX4_init 11 = .ok (.invokespecial 13, 3) := by decide +kernel
theorem dX4_init_14 : decode cX4_init 14 = .ok (.putfield 16, 3) := by decide +kernel
theorem dX4_init_17 : decode cX4_init 17 = .ok (.aload_n 0, 1) := by decide +kernel
theorem dX4_init_18 : decode cX4_init 18 = .ok (.bipush 70, 2) := by decide +kernel
theorem dX4_init_20 : decode cX4_init 20 = .ok (.newarray .int, 2) := by decide +kernel
theorem dX4_init_22 : decode cX4_init 22 = .ok (.putfield 20, 3) := by decide +kernel
theorem dX4_init_25 : decode cX4_init 25 = .ok (.aload_n 0, 1) := by decide +kernel
theorem dX4_init_26 : decode cX4_init 26 = .ok (.bipush 70, 2) := by decide +kernel
theorem dX4_init_28 : decode cX4_init 28 = .ok (.newarray .int, 2) := by decide +kernel
theorem dX4_init_30 : decode cX4_init 30 = .ok (.putfield 24, 3) := by decide +kernel
theorem dX4_init_33 : decode cX4_init 33 = .ok (.aload_n 0, 1) := by decide +kernel
theorem dX4_init_34 : decode cX4_init 34 = .ok (.bipush 70, 2) := by decide +kernel
theorem dX4_init_36 : decode cX4_init 36 = .ok (.newarray .int, 2) := by decide +kernel
theorem dX4_init_38 : decode cX4_init 38 = .ok (.putfield 27, 3) := by decide +kernel
theorem dX4_init_41 : decode cX4_init 41 = .ok (.aload_n 0, 1) := by decide +kernel
theorem dX4_init_42 : decode cX4_init 42 = .ok (.bipush 70, 2) := by decide +kernel
theorem dX4_init_44 : decode cX4_init 44 = .ok (.newarray .int, 2) := by decide +kernel
theorem dX4_init_46 : decode cX4_init 46 = .ok (.putfield 30, 3) := by decide +kernel
theorem dX4_init_49 : decode cX4_init 49 = .ok (.return_, 1) := by decide +kernel
theorem dX4_find_0 : decode cX4_find 0 = .ok (.iconst 0, 1) := by decide +kernel
theorem dX4_find_1 : decode cX4_find 1 = .ok (.istore 5, 2) := by decide +kernel
theorem dX4_find_3 : decode cX4_find 3 = .ok (.iload 5, 2) := by decide +kernel
theorem dX4_find_5 : decode cX4_find 5 = .ok (.aload_n 0, 1) := by decide +kernel
theorem dX4_find_6 : decode cX4_find 6 = .ok (.getfield 16, 3) := by decide +kernel
theorem dX4_find_9 : decode cX4_find 9 = .ok (.getfield 33, 3) := by decide +kernel
theorem dX4_find_12 : decode cX4_find 12 = .ok (.if_icmp .ge 59, 3) := by decide +kernel
theorem dX4_find_15 : decode cX4_find 15 = .ok (.aload_n 0, 1) := by decide +kernel
theorem dX4_find_16 : decode cX4_find 16 = .ok (.getfield 24, 3) := by decide +kernel
theorem dX4_find_19 : decode cX4_find 19 = .ok (.iload 5, 2) := by decide +kernel
theorem dX4_find_21 : decode cX4_find 21 = .ok (.iaload, 1) := by decide +kernel
theorem dX4_find_22 : decode cX4_find 22 = .ok (.iload_n 2, 1) := by decide +kernel
theorem dX4_find_23 : decode cX4_find 23 = .ok (.if_icmp .ne 42, 3) := by decide +kernel
theorem dX4_find_26 : decode cX4_find 26 = .ok (.aload_n 0, 1) := by decide +kernel
theorem dX4_find_27 : decode cX4_find 27 = .ok (.getfield 27, 3) := by decide +kernel
theorem dX4_find_30 : decode cX4_find 30 = .ok (.iload 5, 2) := by decide +kernel
theorem dX4_find_32 : decode cX4_find 32 = .ok (.iaload, 1) := by decide +kernel
theorem dX4_find_33 : decode cX4_find 33 = .ok (.iload_n 3, 1) := by decide +kernel
theorem dX4_find_34 : decode cX4_find 34 = .ok (.if_icmp .ne 31, 3) := by decide +kernel
theorem dX4_find_37 : decode cX4_find 37 = .ok (.aload_n 0, 1) := by decide +kernel
theorem dX4_find_38 : decode cX4_find 38 = .ok (.getfield 20, 3) := by decide +kernel
theorem dX4_find_41 : decode cX4_find 41 = .ok (.iload 5, 2) := by decide +kernel
theorem dX4_find_43 : decode cX4_find 43 = .ok (.iaload, 1) := by decide +kernel
theorem dX4_find_44 : decode cX4_find 44 = .ok (.iload_n 1, 1) := by decide +kernel
theorem dX4_find_45 : decode cX4_find 45 = .ok (.if_icmp .ne 20, 3) := by decide +kernel
theorem dX4_find_48 : decode cX4_find 48 = .ok (.aload_n 0, 1) := by decide +kernel
theorem dX4_find_49 : decode cX4_find 49 = .ok (.getfield 16, 3) := by decide +kernel
theorem dX4_find_52 : decode cX4_find 52 = .ok (.iload 5, 2) := by decide +kernel
theorem dX4_find_54 : decode cX4_find 54 = .ok (.iload 4, 2) := by decide +kernel
theorem dX4_find_56 : decode cX4_find 56 = .ok (.invokevirtual 37, 3) := by decide +kernel
theorem dX4_find_59 : decode cX4_find 59 = .ok (.ifCond .eq 6, 3) := by decide +kernel
theorem dX4_find_62 : decode cX4_find 62 = .ok (.iload 5, 2) := by decide +kernel
theorem dX4_find_64 : decode cX4_find 64 = .ok (.ireturn, 1) := by decide +kernel
theorem dX4_find_65 : decode cX4_find 65 = .ok (.iinc 5 1, 3) := by decide +kernel
theorem dX4_find_68 : decode cX4_find 68 = .ok (.goto (-65), 3) := by decide +kernel
theorem dX4_find_71 : decode cX4_find 71 = .ok (.iconst (-1), 1) := by decide +kernel
theorem dX4_find_72 : decode cX4_find 72 = .ok (.ireturn, 1) := by decide +kernel
theorem dX4_exists_0 : decode cX4_exists 0 = .ok (.iconst 0, 1) := by decide +kernel
theorem dX4_exists_1 : decode cX4_exists 1 = .ok (.istore 4, 2) := by decide +kernel
theorem dX4_exists_3 : decode cX4_exists 3 = .ok (.iload 4, 2) := by decide +kernel
theorem dX4_exists_5 : decode cX4_exists 5 = .ok (.aload_n 0, 1) := by decide +kernel
theorem dX4_exists_6 : decode cX4_exists 6 = .ok (.getfield 16, 3) := by decide +kernel
theorem dX4_exists_9 : decode cX4_exists 9 = .ok (.getfield 33, 3) := by decide +kernel
theorem dX4_exists_12 : decode cX4_exists 12 = .ok (.if_icmp .ge 49, 3) := by decide +kernel
theorem dX4_exists_15 : decode cX4_exists 15 = .ok (.aload_n 0, 1) := by decide +kernel
theorem dX4_exists_16 : decode cX4_exists 16 = .ok (.getfield 20, 3) := by decide +kernel
theorem dX4_exists_19 : decode cX4_exists 19 = .ok (.iload 4, 2) := by decide +kernel
theorem dX4_exists_21 : decode cX4_exists 21 = .ok (.iaload, 1) := by decide +kernel
theorem dX4_exists_22 : decode cX4_exists 22 = .ok (.iload_n 1, 1) := by decide +kernel
theorem dX4_exists_23 : decode cX4_exists 23 = .ok (.if_icmp .ne 32, 3) := by decide +kernel
theorem dX4_exists_26 : decode cX4_exists 26 = .ok (.aload_n 0, 1) := by decide +kernel
theorem dX4_exists_27 : decode cX4_exists 27 = .ok (.getfield 24, 3) := by decide +kernel
theorem dX4_exists_30 : decode cX4_exists 30 = .ok (.iload 4, 2) := by decide +kernel
theorem dX4_exists_32 : decode cX4_exists 32 = .ok (.iaload, 1) := by decide +kernel
theorem dX4_exists_33 : decode cX4_exists 33 = .ok (.iload_n 2, 1) := by decide +kernel
theorem dX4_exists_34 : decode cX4_exists 34 = .ok (.invokestatic 41, 3) := by decide +kernel
theorem dX4_exists_37 : decode cX4_exists 37 = .ok (.ifCond .eq 18, 3) := by decide +kernel
theorem dX4_exists_40 : decode cX4_exists 40 = .ok (.aload_n 0, 1) := by decide +kernel
theorem dX4_exists_41 : decode cX4_exists 41 = .ok (.getfield 16, 3) := by decide +kernel
theorem dX4_exists_44 : decode cX4_exists 44 = .ok (.iload 4, 2) := by decide +kernel
theorem dX4_exists_46 : decode cX4_exists 46 = .ok (.iload_n 3, 1) := by decide +kernel
theorem dX4_exists_47 : decode cX4_exists 47 = .ok (.invokevirtual 37, 3) := by decide +kernel
theorem dX4_exists_50 : decode cX4_exists 50 = .ok (.ifCond .eq 5, 3) := by decide +kernel
theorem dX4_exists_53 : decode cX4_exists 53 = .ok (.iconst 1, 1) := by decide +kernel
theorem dX4_exists_54 : decode cX4_exists 54 = .ok (.ireturn, 1) := by decide +kernel
theorem dX4_exists_55 : decode cX4_exists 55 = .ok (.iinc 4 1, 3) := by decide +kernel
theorem dX4_exists_58 : decode cX4_exists 58 = .ok (.goto (-55), 3) := by decide +kernel
theorem dX4_exists_61 : decode cX4_exists 61 = .ok (.iconst 0, 1) := by decide +kernel
theorem dX4_exists_62 : decode cX4_exists 62 = .ok (.ireturn, 1) := by decide +kernel
theorem dX4_put_0 : decode cX4_put 0 = .ok (.aload_n 0, 1) := by decide +kernel
theorem dX4_put_1 : decode cX4_put 1 = .ok (.getfield 16, 3) := by decide +kernel
theorem dX4_put_4 : decode cX4_put 4 = .ok (.aload_n 0, 1) := by decide +kernel
theorem dX4_put_5 : decode cX4_put 5 = .ok (.iload_n 1, 1) := by decide +kernel
theorem dX4_put_6 : decode cX4_put 6 = .ok (.iload_n 2, 1) := by decide +kernel
theorem dX4_put_7 : decode cX4_put 7 = .ok (.iload_n 3, 1) := by decide +kernel
theorem dX4_put_8 : decode cX4_put 8 = .ok (.iload 5, 2) := by decide +kernel
theorem dX4_put_10 : decode cX4_put 10 = .ok (.invokevirtual 46, 3) := by decide +kernel
theorem dX4_put_13 : decode cX4_put 13 = .ok (.iload 5, 2) := by decide +kernel
theorem dX4_put_15 : decode cX4_put 15 = .ok (.invokevirtual 50, 3) := by decide +kernel
theorem dX4_put_18 : decode cX4_put 18 = .ok (.aload_n 0, 1) := by decide +kernel
theorem dX4_put_19 : decode cX4_put 19 = .ok (.iload_n 1, 1) := by decide +kernel
theorem dX4_put_20 : decode cX4_put 20 = .ok (.iload_n 2, 1) := by decide +kernel
theorem dX4_put_21 : decode cX4_put 21 = .ok (.iload_n 3, 1) := by decide +kernel
theorem dX4_put_22 : decode cX4_put 22 = .ok (.iload 4, 2) := by decide +kernel
theorem dX4_put_24 : decode cX4_put 24 = .ok (.iload 5, 2) := by decide +kernel
theorem dX4_put_26 : decode cX4_put 26 = .ok (.invokevirtual 54, 3) := by decide +kernel
theorem dX4_put_29 : decode cX4_put 29 = .ok (.pop, 1) := by decide +kernel
theorem dX4_put_30 : decode cX4_put 30 = .ok (.return_, 1) := by decide +kernel
theorem dX4_drop_0 : decode cX4_drop 0 = .ok (.aload_n 0, 1) := by decide +kernel
theorem dX4_drop_1 : decode cX4_drop 1 = .ok (.getfield 16, 3) := by decide +kernel
theorem dX4_drop_4 : decode cX4_drop 4 = .ok (.iload_n 1, 1) := by decide +kernel
theorem dX4_drop_5 : decode cX4_drop 5 = .ok (.invokevirtual 58, 3) := by decide +kernel
theorem dX4_drop_8 : decode cX4_drop 8 = .ok (.ifCond .eq 44, 3) := by decide +kernel
theorem dX4_drop_11 : decode cX4_drop 11 = .ok (.aload_n 0, 1) := by decide +kernel
theorem dX4_drop_12 : decode cX4_drop 12 = .ok (.getfield 16, 3) := by decide +kernel
theorem dX4_drop_15 : decode cX4_drop 15 = .ok (.iload_n 1, 1) := by decide +kernel
theorem dX4_drop_16 : decode cX4_drop 16 = .ok (.iload_n 2, 1) := by decide +kernel
theorem dX4_drop_17 : decode cX4_drop 17 = .ok (.invokevirtual 50, 3) := by decide +kernel
theorem dX4_drop_20 : decode cX4_drop 20 = .ok (.aload_n 0, 1) := by decide +kernel
theorem dX4_drop_21 : decode cX4_drop 21 = .ok (.getfield 16, 3) := by decide +kernel
theorem dX4_drop_24 : decode cX4_drop 24 = .ok (.aload_n 0, 1) := by decide +kernel
theorem dX4_drop_25 : decode cX4_drop 25 = .ok (.aload_n 0, 1) := by decide +kernel
theorem dX4_drop_26 : decode cX4_drop 26 = .ok (.getfield 20, 3) := by decide +kernel
theorem dX4_drop_29 : decode cX4_drop 29 = .ok (.iload_n 1, 1) := by decide +kernel
theorem dX4_drop_30 : decode cX4_drop 30 = .ok (.iaload, 1) := by decide +kernel
theorem dX4_drop_31 : decode cX4_drop 31 = .ok (.aload_n 0, 1) := by decide +kernel
theorem dX4_drop_32 : decode cX4_drop 32 = .ok (.getfield 24, 3) := by decide +kernel
theorem dX4_drop_35 : decode cX4_drop 35 = .ok (.iload_n 1, 1) := by decide +kernel
theorem dX4_drop_36 : decode cX4_drop 36 = .ok (.iaload, 1) := by decide +kernel
theorem dX4_drop_37 : decode cX4_drop 37 = .ok (.aload_n 0, 1) := by decide +kernel
theorem dX4_drop_38 : decode cX4_drop 38 = .ok (.getfield 27, 3) := by decide +kernel
theorem dX4_drop_41 : decode cX4_drop 41 = .ok (.iload_n 1, 1) := by decide +kernel
theorem dX4_drop_42 : decode cX4_drop 42 = .ok (.iaload, 1) := by decide +kernel
theorem dX4_drop_43 : decode cX4_drop 43 = .ok (.iconst (-1), 1) := by decide +kernel
theorem dX4_drop_44 : decode cX4_drop 44 = .ok (.iload_n 2, 1) := by decide +kernel
theorem dX4_drop_45 : decode cX4_drop 45 = .ok (.invokevirtual 54, 3) := by decide +kernel
theorem dX4_drop_48 : decode cX4_drop 48 = .ok (.iload_n 2, 1) := by decide +kernel
theorem dX4_drop_49 : decode cX4_drop 49 = .ok (.invokevirtual 50, 3) := by decide +kernel
theorem dX4_drop_52 : decode cX4_drop 52 = .ok (.return_, 1) := by decide +kernel
theorem dX4_note_0 : decode cX4_note 0 = .ok (.aload_n 0, 1) := by decide +kernel
theorem dX4_note_1 : decode cX4_note 1 = .ok (.getfield 16, 3) := by decide +kernel
theorem dX4_note_4 : decode cX4_note 4 = .ok (.iload 5, 2) := by decide +kernel
theorem dX4_note_6 : decode cX4_note 6 = .ok (.invokevirtual 62, 3) := by decide +kernel
theorem dX4_note_9 : decode cX4_note 9 = .ok (.istore 6, 2) := by decide +kernel
theorem dX4_note_11 : decode cX4_note 11 = .ok (.iload 6, 2) := by decide +kernel
theorem dX4_note_13 : decode cX4_note 13 = .ok (.iconst (-1), 1) := by decide +kernel
theorem dX4_note_14 : decode cX4_note 14 = .ok (.if_icmp .eq 36, 3) := by decide +kernel
theorem dX4_note_17 : decode cX4_note 17 = .ok (.aload_n 0, 1) := by decide +kernel
theorem dX4_note_18 : decode cX4_note 18 = .ok (.getfield 20, 3) := by decide +kernel
theorem dX4_note_21 : decode cX4_note 21 = .ok (.iload 6, 2) := by decide +kernel
theorem dX4_note_23 : decode cX4_note 23 = .ok (.iload_n 1, 1) := by decide +kernel
theorem dX4_note_24 : decode cX4_note 24 = .ok (.iastore, 1) := by decide +kernel
theorem dX4_note_25 : decode cX4_note 25 = .ok (.aload_n 0, 1) := by decide +kernel
theorem dX4_note_26 : decode cX4_note 26 = .ok (.getfield 24, 3) := by decide +kernel
theorem dX4_note_29 : decode cX4_note 29 = .ok (.iload 6, 2) := by decide +kernel
theorem dX4_note_31 : decode cX4_note 31 = .ok (.iload_n 2, 1) := by decide +kernel
theorem dX4_note_32 : decode cX4_note 32 = .ok (.iastore, 1) := by decide +kernel
theorem dX4_note_33 : decode cX4_note 33 = .ok (.aload_n 0, 1) := by decide +kernel
theorem dX4_note_34 : decode cX4_note 34 = .ok (.getfield 27, 3) := by decide +kernel
theorem dX4_note_37 : decode cX4_note 37 = .ok (.iload 6, 2) := by decide +kernel
theorem dX4_note_39 : decode cX4_note 39 = .ok (.iload_n 3, 1) := by decide +kernel
theorem dX4_note_40 : decode cX4_note 40 = .ok (.iastore, 1) := by decide +kernel
theorem dX4_note_41 : decode cX4_note 41 = .ok (.aload_n 0, 1) := by decide +kernel
theorem dX4_note_42 : decode cX4_note 42 = .ok (.getfield 30, 3) := by decide +kernel
theorem dX4_note_45 : decode cX4_note 45 = .ok (.iload 6, 2) := by decide +kernel
theorem dX4_note_47 : decode cX4_note 47 = .ok (.iload 4, 2) := by decide +kernel
theorem dX4_note_49 : decode cX4_note 49 = .ok (.iastore, 1) := by decide +kernel
theorem dX4_note_50 : decode cX4_note 50 = .ok (.iload 6, 2) := by decide +kernel
theorem dX4_note_52 : decode cX4_note 52 = .ok (.ireturn, 1) := by decide +kernel
theorem dX4_countIn_0 : decode cX4_countIn 0 = .ok (.iconst 0, 1) := by decide +kernel
theorem dX4_countIn_1 : decode cX4_countIn 1 = .ok (.istore_n 3, 1) := by decide +kernel
theorem dX4_countIn_2 : decode cX4_countIn 2 = .ok (.iconst 0, 1) := by decide +kernel
theorem dX4_countIn_3 : decode cX4_countIn 3 = .ok (.istore 4, 2) := by decide +kernel
theorem dX4_countIn_5 : decode cX4_countIn 5 = .ok (.iload 4, 2) := by decide +kernel
theorem dX4_countIn_7 : decode cX4_countIn 7 = .ok (.aload_n 0, 1) := by decide +kernel
theorem dX4_countIn_8 : decode cX4_countIn 8 = .ok (.getfield 16, 3) := by decide +kernel
theorem dX4_countIn_11 : decode cX4_countIn 11 = .ok (.getfield 33, 3) := by decide +kernel
theorem dX4_countIn_14 : decode cX4_countIn 14 = .ok (.if_icmp .ge 36, 3) := by decide +kernel
theorem dX4_countIn_17 : decode cX4_countIn 17 = .ok (.aload_n 0, 1) := by decide +kernel
theorem dX4_countIn_18 : decode cX4_countIn 18 = .ok (.getfield 20, 3) := by decide +kernel
theorem dX4_countIn_21 : decode cX4_countIn 21 = .ok (.iload 4, 2) := by decide +kernel
theorem dX4_countIn_23 : decode cX4_countIn 23 = .ok (.iaload, 1) := by decide +kernel
theorem dX4_countIn_24 : decode cX4_countIn 24 = .ok (.iload_n 1, 1) := by decide +kernel
theorem dX4_countIn_25 : decode cX4_countIn 25 = .ok (.if_icmp .ne 19, 3) := by decide +kernel
theorem dX4_countIn_28 : decode cX4_countIn 28 = .ok (.aload_n 0, 1) := by decide +kernel
theorem dX4_countIn_29 : decode cX4_countIn 29 = .ok (.getfield 16, 3) := by decide +kernel
theorem dX4_countIn_32 : decode cX4_countIn 32 = .ok (.iload 4, 2) := by decide +kernel
theorem dX4_countIn_34 : decode cX4_countIn 34 = .ok (.iload_n 2, 1) := by decide +kernel
theorem dX4_countIn_35 : decode cX4_countIn 35 = .ok (.invokevirtual 37, 3) := by decide +kernel
theorem dX4_countIn_38 : decode cX4_countIn 38 = .ok (.ifCond .eq 6, 3) := by decide +kernel
theorem dX4_countIn_41 : decode cX4_countIn 41 = .ok (.iinc 3 1, 3) := by decide +kernel
theorem dX4_countIn_44 : decode cX4_countIn 44 = .ok (.iinc 4 1, 3) := by decide +kernel
theorem dX4_countIn_47 : decode cX4_countIn 47 = .ok (.goto (-42), 3) := by decide +kernel
theorem dX4_countIn_50 : decode cX4_countIn 50 = .ok (.iload_n 3, 1) := by decide +kernel
theorem dX4_countIn_51 : decode cX4_countIn 51 = .ok (.ireturn, 1) := by decide +kernel
theorem dX4_countChanges_0 : decode cX4_countChanges 0 = .ok (.iconst 0, 1) := by decide +kernel
theorem dX4_countChanges_1 : decode cX4_countChanges 1 = .ok (.istore_n 3, 1) := by decide +kernel
theorem dX4_countChanges_2 : decode cX4_countChanges 2 = .ok (.iconst 0, 1) := by decide +kernel
theorem dX4_countChanges_3 : decode cX4_countChanges 3 = .ok (.istore 4, 2) := by decide +kernel
theorem dX4_countChanges_5 : decode cX4_countChanges 5 = .ok (.iload 4, 2) := by decide +kernel
theorem dX4_countChanges_7 : decode cX4_countChanges 7 = .ok (.aload_n 0, 1) := by decide +kernel
theorem dX4_countChanges_8 : decode cX4_countChanges 8 = .ok (.getfield 16, 3) := by decide +kernel
theorem dX4_countChanges_11 : decode cX4_countChanges 11 = .ok (.getfield 33, 3) := by decide +kernel
theorem dX4_countChanges_14 : decode cX4_countChanges 14 = .ok (.if_icmp .ge 37, 3) := by decide +kernel
theorem dX4_countChanges_17 : decode cX4_countChanges 17 = .ok (.aload_n 0, 1) := by decide +kernel
theorem dX4_countChanges_18 : decode cX4_countChanges 18 = .ok (.getfield 20, 3) := by decide +kernel
theorem dX4_countChanges_21 : decode cX4_countChanges 21 = .ok (.iload 4, 2) := by decide +kernel
theorem dX4_countChanges_23 : decode cX4_countChanges 23 = .ok (.iaload, 1) := by decide +kernel
theorem dX4_countChanges_24 : decode cX4_countChanges 24 = .ok (.iload_n 1, 1) := by decide +kernel
theorem dX4_countChanges_25 : decode cX4_countChanges 25 = .ok (.if_icmp .ne 20, 3) := by decide +kernel
theorem dX4_countChanges_28 : decode cX4_countChanges 28 = .ok (.aload_n 0, 1) := by decide +kernel
theorem dX4_countChanges_29 : decode cX4_countChanges 29 = .ok (.getfield 16, 3) := by decide +kernel
theorem dX4_countChanges_32 : decode cX4_countChanges 32 = .ok (.getfield 66, 3) := by decide +kernel
theorem dX4_countChanges_35 : decode cX4_countChanges 35 = .ok (.iload 4, 2) := by decide +kernel
theorem dX4_countChanges_37 : decode cX4_countChanges 37 = .ok (.iaload, 1) := by decide +kernel
theorem dX4_countChanges_38 : decode cX4_countChanges 38 = .ok (.iload_n 2, 1) := by decide +kernel
theorem dX4_countChanges_39 : decode cX4_countChanges 39 = .ok (.if_icmp .gt 6, 3) := by decide +kernel
theorem dX4_countChanges_42 : decode cX4_countChanges 42 = .ok (.iinc 3 1, 3) := by decide +kernel
theorem dX4_countChanges_45 : decode cX4_countChanges 45 = .ok (.iinc 4 1, 3) := by decide +kernel
theorem dX4_countChanges_48 : decode cX4_countChanges 48 = .ok (.goto (-43), 3) := by decide +kernel
theorem dX4_countChanges_51 : decode cX4_countChanges 51 = .ok (.iload_n 3, 1) := by decide +kernel
theorem dX4_countChanges_52 : decode cX4_countChanges 52 = .ok (.ireturn, 1) := by decide +kernel
theorem dX4_findChange_0 : decode cX4_findChange 0 = .ok (.iconst 0, 1) := by decide +kernel
theorem dX4_findChange_1 : decode cX4_findChange 1 = .ok (.istore_n 3, 1) := by decide +kernel
theorem dX4_findChange_2 : decode cX4_findChange 2 = .ok (.iconst 0, 1) := by decide +kernel
theorem dX4_findChange_3 : decode cX4_findChange 3 = .ok (.istore 4, 2) := by decide +kernel
theorem dX4_findChange_5 : decode cX4_findChange 5 = .ok (.iload 4, 2) := by decide +kernel
theorem dX4_findChange_7 : decode cX4_findChange 7 = .ok (.aload_n 0, 1) := by decide +kernel
theorem dX4_findChange_8 : decode cX4_findChange 8 = .ok (.getfield 16, 3) := by decide +kernel
theorem dX4_findChange_11 : decode cX4_findChange 11 = .ok (.getfield 33, 3) := by decide +kernel
theorem dX4_findChange_14 : decode cX4_findChange 14 = .ok (.if_icmp .ge 31, 3) := by decide +kernel
theorem dX4_findChange_17 : decode cX4_findChange 17 = .ok (.aload_n 0, 1) := by decide +kernel
theorem dX4_findChange_18 : decode cX4_findChange 18 = .ok (.getfield 20, 3) := by decide +kernel
theorem dX4_findChange_21 : decode cX4_findChange 21 = .ok (.iload 4, 2) := by decide +kernel
theorem dX4_findChange_23 : decode cX4_findChange 23 = .ok (.iaload, 1) := by decide +kernel
theorem dX4_findChange_24 : decode cX4_findChange 24 = .ok (.iload_n 1, 1) := by decide +kernel
theorem dX4_findChange_25 : decode cX4_findChange 25 = .ok (.if_icmp .ne 14, 3) := by decide +kernel
theorem dX4_findChange_28 : decode cX4_findChange 28 = .ok (.iload_n 3, 1) := by decide +kernel
theorem dX4_findChange_29 : decode cX4_findChange 29 = .ok (.iload_n 2, 1) := by decide +kernel
theorem dX4_findChange_30 : decode cX4_findChange 30 = .ok (.if_icmp .ne 6, 3) := by decide +kernel
theorem dX4_findChange_33 : decode cX4_findChange 33 = .ok (.iload 4, 2) := by decide +kernel
theorem dX4_findChange_35 : decode cX4_findChange 35 = .ok (.ireturn, 1) := by decide +kernel
theorem dX4_findChange_36 : decode cX4_findChange 36 = .ok (.iinc 3 1, 3) := by decide +kernel
theorem dX4_findChange_39 : decode cX4_findChange 39 = .ok (.iinc 4 1, 3) := by decide +kernel
theorem dX4_findChange_42 : decode cX4_findChange 42 = .ok (.goto (-37), 3) := by decide +kernel
theorem dX4_findChange_45 : decode cX4_findChange 45 = .ok (.iconst (-1), 1) := by decide +kernel
theorem dX4_findChange_46 : decode cX4_findChange 46 = .ok (.ireturn, 1) := by decide +kernel
