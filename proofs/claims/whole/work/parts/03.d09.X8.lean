theorem dX8_init_0 : decode cX8_init 0 = .ok (.aload_n 0, 1) := by decide +kernel
theorem dX8_init_1 : decode cX8_init 1 = .ok (.invokespecial 1, 3) := by decide +kernel
theorem dX8_init_4 : decode cX8_init 4 = .ok (.aload_n 0, 1) := by decide +kernel
theorem dX8_init_5 : decode cX8_init 5 = .ok (.new 7, 3) := by decide +kernel
theorem dX8_init_8 : decode cX8_init 8 = .ok (.dup, 1) := by decide +kernel
theorem dX8_init_9 : decode cX8_init 9 = .ok (.invokespecial 9, 3) := by decide +kernel
theorem dX8_init_12 : decode cX8_init 12 = .ok (.putfield 10, 3) := by decide +kernel
theorem dX8_init_15 : decode cX8_init 15 = .ok (.aload_n 0, 1) := by decide +kernel
theorem dX8_init_16 : decode cX8_init 16 = .ok (.new 16, 3) := by decide +kernel
theorem dX8_init_19 : decode cX8_init 19 = .ok (.dup, 1) := by decide +kernel
theorem dX8_init_20 : decode cX8_init 20 = .ok (.invokespecial 18, 3) := by decide +kernel
theorem dX8_init_23 : decode cX8_init 23 = .ok (.putfield 19, 3) := by decide +kernel
theorem dX8_init_26 : decode cX8_init 26 = .ok (.aload_n 0, 1) := by decide +kernel
theorem dX8_init_27 : decode cX8_init 27 = .ok (.aload_n 0, 1) := by decide +kernel
theorem dX8_init_28 : decode cX8_init 28 = .ok (.getfield 19, 3) := by decide +kernel
theorem dX8_init_31 : decode cX8_init 31 = .ok (.getfield 23, 3) := by decide +kernel
theorem dX8_init_34 : decode cX8_init 34 = .ok (.putfield 27, 3) := by decide +kernel
theorem dX8_init_37 : decode cX8_init 37 = .ok (.aload_n 0, 1) := by decide +kernel
theorem dX8_init_38 : decode cX8_init 38 = .ok (.aload_n 0, 1) := by decide +kernel
theorem dX8_init_39 : decode cX8_init 39 = .ok (.getfield 19, 3) := by decide +kernel
theorem dX8_init_42 : decode cX8_init 42 = .ok (.getfield 28, 3) := by decide +kernel
theorem dX8_init_45 : decode cX8_init 45 = .ok (.putfield 32, 3) := by decide +kernel
theorem dX8_init_48 : decode cX8_init 48 = .ok (.aload_n 0, 1) := by decide +kernel
theorem dX8_init_49 : decode cX8_init 49 = .ok (.new 33, 3) := by decide +kernel
theorem dX8_init_52 : decode cX8_init 52 = .ok (.dup, 1) := by decide +kernel
theorem dX8_init_53 : decode cX8_init 53 = .ok (.invokespecial 35, 3) := by decide +kernel
theorem dX8_init_56 : decode cX8_init 56 = .ok (.putfield 36, 3) := by decide +kernel
theorem dX8_init_59 : decode cX8_init 59 = .ok (.aload_n 0, 1) := by decide +kernel
theorem dX8_init_60 : decode cX8_init 60 = .ok (.new 40, 3) := by decide +kernel
theorem dX8_init_63 : decode cX8_init 63 = .ok (.dup, 1) := by decide +kernel
theorem dX8_init_64 : decode cX8_init 64 = .ok (.invokespecial 42, 3) := by decide +kernel
theorem dX8_init_67 : decode cX8_init 67 = .ok (.putfield 43, 3) := by decide +kernel
theorem dX8_init_70 : decode cX8_init 70 = .ok (.aload_n 0, 1) := by decide +kernel
theorem dX8_init_71 : decode cX8_init 71 = .ok (.iconst 0, 1) := by decide +kernel
theorem dX8_init_72 : decode cX8_init 72 = .ok (.putfield 47, 3) := by decide +kernel
theorem dX8_init_75 : decode cX8_init 75 = .ok (.return_, 1) := by decide +kernel
theorem dX8_pass_0 : decode cX8_pass 0 = .ok (.iload_n 1, 1) := by decide +kernel
theorem dX8_pass_1 : decode cX8_pass 1 = .ok (.iconst 1, 1) := by decide +kernel
theorem dX8_pass_2 : decode cX8_pass 2 = .ok (.if_icmp .lt 10, 3) := by decide +kernel
theorem dX8_pass_5 : decode cX8_pass 5 = .ok (.iload_n 1, 1) := by decide +kernel
theorem dX8_pass_6 : decode cX8_pass 6 = .ok (.sipush 1000, 3) := by decide +kernel
theorem dX8_pass_9 : decode cX8_pass 9 = .ok (.if_icmp .le 5, 3) := by decide +kernel
theorem dX8_pass_12 : decode cX8_pass 12 = .ok (.iconst (-1), 1) := by decide +kernel
theorem dX8_pass_13 : decode cX8_pass 13 = .ok (.ireturn, 1) := by decide +kernel
theorem dX8_pass_14 : decode cX8_pass 14 = .ok (.aload_n 0, 1) := by decide +kernel
theorem dX8_pass_15 : decode cX8_pass 15 = .ok (.getfield 47, 3) := by decide +kernel
theorem dX8_pass_18 : decode cX8_pass 18 = .ok (.iload_n 1, 1) := by decide +kernel
theorem dX8_pass_19 : decode cX8_pass 19 = .ok (.iadd, 1) := by decide +kernel
theorem dX8_pass_20 : decode cX8_pass 20 = .ok (.sipush 9999, 3) := by decide +kernel
theorem dX8_pass_23 : decode cX8_pass 23 = .ok (.if_icmp .le 6, 3) := by decide +kernel
theorem dX8_pass_26 : decode cX8_pass 26 = .ok (.bipush (-3), 2) := by decide +kernel
theorem dX8_pass_28 : decode cX8_pass 28 = .ok (.ireturn, 1) := by decide +kernel
theorem dX8_pass_29 : decode cX8_pass 29 = .ok (.aload_n 0, 1) := by decide +kernel
theorem dX8_pass_30 : decode cX8_pass 30 = .ok (.dup, 1) := by decide +kernel
theorem dX8_pass_31 : decode cX8_pass 31 = .ok (.getfield 47, 3) := by decide +kernel
theorem dX8_pass_34 : decode cX8_pass 34 = .ok (.iload_n 1, 1) := by decide +kernel
theorem dX8_pass_35 : decode cX8_pass 35 = .ok (.iadd, 1) := by decide +kernel
theorem dX8_pass_36 : decode cX8_pass 36 = .ok (.putfield 47, 3) := by decide +kernel
theorem dX8_pass_39 : decode cX8_pass 39 = .ok (.aload_n 0, 1) := by decide +kernel
theorem dX8_pass_40 : decode cX8_pass 40 = .ok (.getfield 47, 3) := by decide +kernel
theorem dX8_pass_43 : decode cX8_pass 43 = .ok (.ireturn, 1) := by decide +kernel
theorem dX8_time_0 : decode cX8_time 0 = .ok (.aload_n 0, 1) := by decide +kernel
theorem dX8_time_1 : decode cX8_time 1 = .ok (.getfield 47, 3) := by decide +kernel
theorem dX8_time_4 : decode cX8_time 4 = .ok (.ireturn, 1) := by decide +kernel
theorem dX8_addNet_0 : decode cX8_addNet 0 = .ok (.iload_n 1, 1) := by decide +kernel
theorem dX8_addNet_1 : decode cX8_addNet 1 = .ok (.invokestatic 51, 3) := by decide +kernel
theorem dX8_addNet_4 : decode cX8_addNet 4 = .ok (.ifCond .eq 21, 3) := by decide +kernel
theorem dX8_addNet_7 : decode cX8_addNet 7 = .ok (.iload_n 1, 1) := by decide +kernel
theorem dX8_addNet_8 : decode cX8_addNet 8 = .ok (.ifCond .eq 17, 3) := by decide +kernel
theorem dX8_addNet_11 : decode cX8_addNet 11 = .ok (.iload_n 2, 1) := by decide +kernel
theorem dX8_addNet_12 : decode cX8_addNet 12 = .ok (.invokestatic 55, 3) := by decide +kernel
theorem dX8_addNet_15 : decode cX8_addNet 15 = .ok (.ifCond .eq 10, 3) := by decide +kernel
theorem dX8_addNet_18 : decode cX8_addNet 18 = .ok (.iload_n 3, 1) := by decide +kernel
theorem dX8_addNet_19 : decode cX8_addNet 19 = .ok (.invokestatic 58, 3) := by decide +kernel
theorem dX8_addNet_22 : decode cX8_addNet 22 = .ok (.ifCond .ne 5, 3) := by decide +kernel
theorem dX8_addNet_25 : decode cX8_addNet 25 = .ok (.iconst (-1), 1) := by decide +kernel
theorem dX8_addNet_26 : decode cX8_addNet 26 = .ok (.ireturn, 1) := by decide +kernel
theorem dX8_addNet_27 : decode cX8_addNet 27 = .ok (.aload_n 0, 1) := by decide +kernel
theorem dX8_addNet_28 : decode cX8_addNet 28 = .ok (.getfield 10, 3) := by decide +kernel
theorem dX8_addNet_31 : decode cX8_addNet 31 = .ok (.getfield 61, 3) := by decide +kernel
theorem dX8_addNet_34 : decode cX8_addNet 34 = .ok (.invokevirtual 65, 3) := by decide +kernel
theorem dX8_addNet_37 : decode cX8_addNet 37 = .ok (.ifCond .eq 6, 3) := by decide +kernel
theorem dX8_addNet_40 : decode cX8_addNet 40 = .ok (.bipush (-3), 2) := by decide +kernel
theorem dX8_addNet_42 : decode cX8_addNet 42 = .ok (.ireturn, 1) := by decide +kernel
theorem dX8_addNet_43 : decode cX8_addNet 43 = .ok (.aload_n 0, 1) := by decide +kernel
theorem dX8_addNet_44 : decode cX8_addNet 44 = .ok (.getfield 10, 3) := by decide +kernel
theorem dX8_addNet_47 : decode cX8_addNet 47 = .ok (.iload_n 1, 1) := by decide +kernel
theorem dX8_addNet_48 : decode cX8_addNet 48 = .ok (.iload_n 2, 1) := by decide +kernel
theorem dX8_addNet_49 : decode cX8_addNet 49 = .ok (.iload_n 3, 1) := by decide +kernel
theorem dX8_addNet_50 : decode cX8_addNet 50 = .ok (.aload_n 0, 1) := by decide +kernel
theorem dX8_addNet_51 : decode cX8_addNet 51 = .ok (.getfield 47, 3) := by decide +kernel
theorem dX8_addNet_54 : decode cX8_addNet 54 = .ok (.invokevirtual 71, 3) := by decide +kernel
theorem dX8_addNet_57 : decode cX8_addNet 57 = .ok (.ireturn, 1) := by decide +kernel
theorem dX8_removeNet_0 : decode cX8_removeNet 0 = .ok (.aload_n 0, 1) := by decide +kernel
theorem dX8_removeNet_1 : decode cX8_removeNet 1 = .ok (.getfield 10, 3) := by decide +kernel
theorem dX8_removeNet_4 : decode cX8_removeNet 4 = .ok (.getfield 61, 3) := by decide +kernel
theorem dX8_removeNet_7 : decode cX8_removeNet 7 = .ok (.iload_n 1, 1) := by decide +kernel
theorem dX8_removeNet_8 : decode cX8_removeNet 8 = .ok (.invokevirtual 75, 3) := by decide +kernel
theorem dX8_removeNet_11 : decode cX8_removeNet 11 = .ok (.ifCond .ne 5, 3) := by decide +kernel
theorem dX8_removeNet_14 : decode cX8_removeNet 14 = .ok (.iconst (-1), 1) := by decide +kernel
theorem dX8_removeNet_15 : decode cX8_removeNet 15 = .ok (.ireturn, 1) := by decide +kernel
theorem dX8_removeNet_16 : decode cX8_removeNet 16 = .ok (.aload_n 0, 1) := by decide +kernel
theorem dX8_removeNet_17 : decode cX8_removeNet 17 = .ok (.getfield 10, 3) := by decide +kernel
theorem dX8_removeNet_20 : decode cX8_removeNet 20 = .ok (.getfield 61, 3) := by decide +kernel
theorem dX8_removeNet_23 : decode cX8_removeNet 23 = .ok (.iload_n 1, 1) := by decide +kernel
theorem dX8_removeNet_24 : decode cX8_removeNet 24 = .ok (.aload_n 0, 1) := by decide +kernel
theorem dX8_removeNet_25 : decode cX8_removeNet 25 = .ok (.getfield 47, 3) := by decide +kernel
theorem dX8_removeNet_28 : decode cX8_removeNet 28 = .ok (.invokevirtual 78, 3) := by decide +kernel
theorem dX8_removeNet_31 : decode cX8_removeNet 31 = .ok (.ifCond .ne 6, 3) := by decide +kernel
theorem dX8_removeNet_34 : decode cX8_removeNet 34 = .ok (.bipush (-2), 2) := by decide +kernel
theorem dX8_removeNet_36 : decode cX8_removeNet 36 = .ok (.ireturn, 1) := by decide +kernel
theorem dX8_removeNet_37 : decode cX8_removeNet 37 = .ok (.aload_n 0, 1) := by decide +kernel
theorem dX8_removeNet_38 : decode cX8_removeNet 38 = .ok (.getfield 10, 3) := by decide +kernel
theorem dX8_removeNet_41 : decode cX8_removeNet 41 = .ok (.getfield 61, 3) := by decide +kernel
theorem dX8_removeNet_44 : decode cX8_removeNet 44 = .ok (.iload_n 1, 1) := by decide +kernel
theorem dX8_removeNet_45 : decode cX8_removeNet 45 = .ok (.aload_n 0, 1) := by decide +kernel
theorem dX8_removeNet_46 : decode cX8_removeNet 46 = .ok (.getfield 47, 3) := by decide +kernel
theorem dX8_removeNet_49 : decode cX8_removeNet 49 = .ok (.invokevirtual 82, 3) := by decide +kernel
theorem dX8_removeNet_52 : decode cX8_removeNet 52 = .ok (.aload_n 0, 1) := by decide +kernel
theorem dX8_removeNet_53 : decode cX8_removeNet 53 = .ok (.getfield 10, 3) := by decide +kernel
theorem dX8_removeNet_56 : decode cX8_removeNet 56 = .ok (.getfield 86, 3) := by decide +kernel
theorem dX8_removeNet_59 : decode cX8_removeNet 59 = .ok (.iload_n 1, 1) := by decide +kernel
theorem dX8_removeNet_60 : decode cX8_removeNet 60 = .ok (.iaload, 1) := by decide +kernel
theorem dX8_removeNet_61 : decode cX8_removeNet 61 = .ok (.ireturn, 1) := by decide +kernel
theorem dX8_viewOf_0 : decode cX8_viewOf 0 = .ok (.iload_n 1, 1) := by decide +kernel
theorem dX8_viewOf_1 : decode cX8_viewOf 1 = .ok (.invokestatic 55, 3) := by decide +kernel
theorem dX8_viewOf_4 : decode cX8_viewOf 4 = .ok (.ifCond .eq 11, 3) := by decide +kernel
theorem dX8_viewOf_7 : decode cX8_viewOf 7 = .ok (.aload_n 0, 1) := by decide +kernel
theorem dX8_viewOf_8 : decode cX8_viewOf 8 = .ok (.iload_n 2, 1) := by decide +kernel
theorem dX8_viewOf_9 : decode cX8_viewOf 9 = .ok (.invokevirtual 90, 3) := by decide +kernel
theorem dX8_viewOf_12 : decode cX8_viewOf 12 = .ok (.ifCond .ne 5, 3) := by decide +kernel
theorem dX8_viewOf_15 : decode cX8_viewOf 15 = .ok (.iconst (-1), 1) := by decide +kernel
theorem dX8_viewOf_16 : decode cX8_viewOf 16 = .ok (.ireturn, 1) := by decide +kernel
theorem dX8_viewOf_17 : decode cX8_viewOf 17 = .ok (.aload_n 0, 1) := by decide +kernel
theorem dX8_viewOf_18 : decode cX8_viewOf 18 = .ok (.getfield 10, 3) := by decide +kernel
theorem dX8_viewOf_21 : decode cX8_viewOf 21 = .ok (.iload_n 1, 1) := by decide +kernel
theorem dX8_viewOf_22 : decode cX8_viewOf 22 = .ok (.iload_n 2, 1) := by decide +kernel
theorem dX8_viewOf_23 : decode cX8_viewOf 23 = .ok (.invokevirtual 93, 3) := by decide +kernel
theorem dX8_viewOf_26 : decode cX8_viewOf 26 = .ok (.ireturn, 1) := by decide +kernel
theorem dX8_addZone_0 : decode cX8_addZone 0 = .ok (.iload_n 1, 1) := by decide +kernel
theorem dX8_addZone_1 : decode cX8_addZone 1 = .ok (.invokestatic 51, 3) := by decide +kernel
theorem dX8_addZone_4 : decode cX8_addZone 4 = .ok (.ifCond .eq 17, 3) := by decide +kernel
theorem dX8_addZone_7 : decode cX8_addZone 7 = .ok (.iload_n 2, 1) := by decide +kernel
theorem dX8_addZone_8 : decode cX8_addZone 8 = .ok (.invokestatic 97, 3) := by decide +kernel
theorem dX8_addZone_11 : decode cX8_addZone 11 = .ok (.ifCond .eq 10, 3) := by decide +kernel
theorem dX8_addZone_14 : decode cX8_addZone 14 = .ok (.iload_n 2, 1) := by decide +kernel
theorem dX8_addZone_15 : decode cX8_addZone 15 = .ok (.invokestatic 102, 3) := by decide +kernel
theorem dX8_addZone_18 : decode cX8_addZone 18 = .ok (.ifCond .eq 5, 3) := by decide +kernel
theorem dX8_addZone_21 : decode cX8_addZone 21 = .ok (.iconst (-1), 1) := by decide +kernel
theorem dX8_addZone_22 : decode cX8_addZone 22 = .ok (.ireturn, 1) := by decide +kernel
theorem dX8_addZone_23 : decode cX8_addZone 23 = .ok (.aload_n 0, 1) := by decide +kernel
theorem dX8_addZone_24 : decode cX8_addZone 24 = .ok (.getfield 27, 3) := by decide +kernel
theorem dX8_addZone_27 : decode cX8_addZone 27 = .ok (.iload_n 1, 1) := by decide +kernel
theorem dX8_addZone_28 : decode cX8_addZone 28 = .ok (.iload_n 2, 1) := by decide +kernel
theorem dX8_addZone_29 : decode cX8_addZone 29 = .ok (.aload_n 0, 1) := by decide +kernel
theorem dX8_addZone_30 : decode cX8_addZone 30 = .ok (.getfield 47, 3) := by decide +kernel
theorem dX8_addZone_33 : decode cX8_addZone 33 = .ok (.invokevirtual 105, 3) := by decide +kernel
theorem dX8_addZone_36 : decode cX8_addZone 36 = .ok (.iconst (-1), 1) := by decide +kernel
theorem dX8_addZone_37 : decode cX8_addZone 37 = .ok (.if_icmp .eq 6, 3) := by decide +kernel
theorem dX8_addZone_40 : decode cX8_addZone 40 = .ok (.bipush (-2), 2) := by decide +kernel
theorem dX8_addZone_42 : decode cX8_addZone 42 = .ok (.ireturn, 1) := by decide +kernel
theorem dX8_addZone_43 : decode cX8_addZone 43 = .ok (.aload_n 0, 1) := by decide +kernel
theorem dX8_addZone_44 : decode cX8_addZone 44 = .ok (.getfield 27, 3) := by decide +kernel
theorem dX8_addZone_47 : decode cX8_addZone 47 = .ok (.getfield 111, 3) := by decide +kernel
theorem dX8_addZone_50 : decode cX8_addZone 50 = .ok (.invokevirtual 65, 3) := by decide +kernel
theorem dX8_addZone_53 : decode cX8_addZone 53 = .ok (.ifCond .eq 6, 3) := by decide +kernel
theorem dX8_addZone_56 : decode cX8_addZone 56 = .ok (.bipush (-3), 2) := by decide +kernel
theorem dX8_addZone_58 : decode cX8_addZone 58 = .ok (.ireturn, 1) := by decide +kernel
theorem dX8_addZone_59 : decode cX8_addZone 59 = .ok (.aload_n 0, 1) := by decide +kernel
theorem dX8_addZone_60 : decode cX8_addZone 60 = .ok (.getfield 27, 3) := by decide +kernel
theorem dX8_addZone_63 : decode cX8_addZone 63 = .ok (.iload_n 1, 1) := by decide +kernel
theorem dX8_addZone_64 : decode cX8_addZone 64 = .ok (.iload_n 2, 1) := by decide +kernel
theorem dX8_addZone_65 : decode cX8_addZone 65 = .ok (.aload_n 0, 1) := by decide +kernel
theorem dX8_addZone_66 : decode cX8_addZone 66 = .ok (.getfield 47, 3) := by decide +kernel
theorem dX8_addZone_69 : decode cX8_addZone 69 = .ok (.invokevirtual 112, 3) := by decide +kernel
theorem dX8_addZone_72 : decode cX8_addZone 72 = .ok (.ireturn, 1) := by decide +kernel
theorem dX8_removeZone_0 : decode cX8_removeZone 0 = .ok (.aload_n 0, 1) := by decide +kernel
theorem dX8_removeZone_1 : decode cX8_removeZone 1 = .ok (.getfield 27, 3) := by decide +kernel
theorem dX8_removeZone_4 : decode cX8_removeZone 4 = .ok (.getfield 111, 3) := by decide +kernel
theorem dX8_removeZone_7 : decode cX8_removeZone 7 = .ok (.iload_n 1, 1) := by decide +kernel
theorem dX8_removeZone_8 : decode cX8_removeZone 8 = .ok (.invokevirtual 75, 3) := by decide +kernel
theorem dX8_removeZone_11 : decode cX8_removeZone 11 = .ok (.ifCond .ne 5, 3) := by decide +kernel
theorem dX8_removeZone_14 : decode cX8_removeZone 14 = .ok (.iconst (-1), 1) := by decide +kernel
theorem dX8_removeZone_15 : decode cX8_removeZone 15 = .ok (.ireturn, 1) := by decide +kernel
theorem dX8_removeZone_16 : decode cX8_removeZone 16 = .ok (.aload_n 0, 1) := by decide +kernel
theorem dX8_removeZone_17 : decode cX8_removeZone 17 = .ok (.getfield 27, 3) := by decide +kernel
theorem dX8_removeZone_20 : decode cX8_removeZone 20 = .ok (.getfield 111, 3) := by decide +kernel
theorem dX8_removeZone_23 : decode cX8_removeZone 23 = .ok (.iload_n 1, 1) := by decide +kernel
theorem dX8_removeZone_24 : decode cX8_removeZone 24 = .ok (.aload_n 0, 1) := by decide +kernel
theorem dX8_removeZone_25 : decode cX8_removeZone 25 = .ok (.getfield 47, 3) := by decide +kernel
theorem dX8_removeZone_28 : decode cX8_removeZone 28 = .ok (.invokevirtual 78, 3) := by decide +kernel
theorem dX8_removeZone_31 : decode cX8_removeZone 31 = .ok (.ifCond .ne 6, 3) := by decide +kernel
theorem dX8_removeZone_34 : decode cX8_removeZone 34 = .ok (.bipush (-2), 2) := by decide +kernel
theorem dX8_removeZone_36 : decode cX8_removeZone 36 = .ok (.ireturn, 1) := by decide +kernel
theorem dX8_removeZone_37 : decode cX8_removeZone 37 = .ok (.aload_n 0, 1) := by decide +kernel
theorem dX8_removeZone_38 : decode cX8_removeZone 38 = .ok (.getfield 27, 3) := by decide +kernel
theorem dX8_removeZone_41 : decode cX8_removeZone 41 = .ok (.getfield 111, 3) := by decide +kernel
theorem dX8_removeZone_44 : decode cX8_removeZone 44 = .ok (.iload_n 1, 1) := by decide +kernel
theorem dX8_removeZone_45 : decode cX8_removeZone 45 = .ok (.aload_n 0, 1) := by decide +kernel
theorem dX8_removeZone_46 : decode cX8_removeZone 46 = .ok (.getfield 47, 3) := by decide +kernel
theorem dX8_removeZone_49 : decode cX8_removeZone 49 = .ok (.invokevirtual 82, 3) := by decide +kernel
theorem dX8_removeZone_52 : decode cX8_removeZone 52 = .ok (.aload_n 0, 1) := by decide +kernel
theorem dX8_removeZone_53 : decode cX8_removeZone 53 = .ok (.getfield 32, 3) := by decide +kernel
theorem dX8_removeZone_56 : decode cX8_removeZone 56 = .ok (.iload_n 1, 1) := by decide +kernel
theorem dX8_removeZone_57 : decode cX8_removeZone 57 = .ok (.aload_n 0, 1) := by decide +kernel
theorem dX8_removeZone_58 : decode cX8_removeZone 58 = .ok (.getfield 47, 3) := by decide +kernel
theorem dX8_removeZone_61 : decode cX8_removeZone 61 = .ok (.invokevirtual 114, 3) := by decide +kernel
theorem dX8_removeZone_64 : decode cX8_removeZone 64 = .ok (.ireturn, 1) := by decide +kernel
theorem dX8_zoneInfo_0 : decode cX8_zoneInfo 0 = .ok (.aload_n 0, 1) := by decide +kernel
theorem dX8_zoneInfo_1 : decode cX8_zoneInfo 1 = .ok (.getfield 27, 3) := by decide +kernel
theorem dX8_zoneInfo_4 : decode cX8_zoneInfo 4 = .ok (.getfield 111, 3) := by decide +kernel
theorem dX8_zoneInfo_7 : decode cX8_zoneInfo 7 = .ok (.iload_n 1, 1) := by decide +kernel
theorem dX8_zoneInfo_8 : decode cX8_zoneInfo 8 = .ok (.invokevirtual 75, 3) := by decide +kernel
theorem dX8_zoneInfo_11 : decode cX8_zoneInfo 11 = .ok (.ifCond .ne 5, 3) := by decide +kernel
theorem dX8_zoneInfo_14 : decode cX8_zoneInfo 14 = .ok (.iconst (-1), 1) := by decide +kernel
theorem dX8_zoneInfo_15 : decode cX8_zoneInfo 15 = .ok (.ireturn, 1) := by decide +kernel
theorem dX8_zoneInfo_16 : decode cX8_zoneInfo 16 = .ok (.iload_n 2, 1) := by decide +kernel
theorem dX8_zoneInfo_17 : decode cX8_zoneInfo 17 = .ok (.tableswitch 100 0 3 #[31, 41, 51, 64], 31) := by decide +kernel
theorem dX8_zoneInfo_48 : decode cX8_zoneInfo 48 = .ok (.aload_n 0, 1) := by decide +kernel
theorem dX8_zoneInfo_49 : decode cX8_zoneInfo 49 = .ok (.getfield 27, 3) := by decide +kernel
theorem dX8_zoneInfo_52 : decode cX8_zoneInfo 52 = .ok (.getfield 119, 3) := by decide +kernel
theorem dX8_zoneInfo_55 : decode cX8_zoneInfo 55 = .ok (.iload_n 1, 1) := by decide +kernel
theorem dX8_zoneInfo_56 : decode cX8_zoneInfo 56 = .ok (.iaload, 1) := by decide +kernel
theorem dX8_zoneInfo_57 : decode cX8_zoneInfo 57 = .ok (.ireturn, 1) := by decide +kernel
theorem dX8_zoneInfo_58 : decode cX8_zoneInfo 58 = .ok (.aload_n 0, 1) := by decide +kernel
theorem dX8_zoneInfo_59 : decode cX8_zoneInfo 59 = .ok (.getfield 27, 3) := by decide +kernel
theorem dX8_zoneInfo_62 : decode cX8_zoneInfo 62 = .ok (.getfield 120, 3) := by decide +kernel
theorem dX8_zoneInfo_65 : decode cX8_zoneInfo 65 = .ok (.iload_n 1, 1) := by decide +kernel
theorem dX8_zoneInfo_66 : decode cX8_zoneInfo 66 = .ok (.iaload, 1) := by decide +kernel
theorem dX8_zoneInfo_67 : decode cX8_zoneInfo 67 = .ok (.ireturn, 1) := by decide +kernel
theorem dX8_zoneInfo_68 : decode cX8_zoneInfo 68 = .ok (.aload_n 0, 1) := by decide +kernel
theorem dX8_zoneInfo_69 : decode cX8_zoneInfo 69 = .ok (.getfield 27, 3) := by decide +kernel
theorem dX8_zoneInfo_72 : decode cX8_zoneInfo 72 = .ok (.getfield 111, 3) := by decide +kernel
theorem dX8_zoneInfo_75 : decode cX8_zoneInfo 75 = .ok (.getfield 123, 3) := by decide +kernel
theorem dX8_zoneInfo_78 : decode cX8_zoneInfo 78 = .ok (.iload_n 1, 1) := by decide +kernel
theorem dX8_zoneInfo_79 : decode cX8_zoneInfo 79 = .ok (.iaload, 1) := by decide +kernel
theorem dX8_zoneInfo_80 : decode cX8_zoneInfo 80 = .ok (.ireturn, 1) := by decide +kernel
theorem dX8_zoneInfo_81 : decode cX8_zoneInfo 81 = .ok (.aload_n 0, 1) := by decide +kernel
theorem dX8_zoneInfo_82 : decode cX8_zoneInfo 82 = .ok (.getfield 27, 3) := by decide +kernel
theorem dX8_zoneInfo_85 : decode cX8_zoneInfo 85 = .ok (.getfield 111, 3) := by decide +kernel
theorem dX8_zoneInfo_88 : decode cX8_zoneInfo 88 = .ok (.iload_n 1, 1) := by decide +kernel
theorem dX8_zoneInfo_89 : decode cX8_zoneInfo 89 = .ok (.aload_n 0, 1) := by decide +kernel
theorem dX8_zoneInfo_90 : decode cX8_zoneInfo 90 = .ok (.getfield 47, 3) := by decide +kernel
theorem dX8_zoneInfo_93 : decode cX8_zoneInfo 93 = .ok (.invokevirtual 78, 3) := by decide +kernel
theorem dX8_zoneInfo_96 : decode cX8_zoneInfo 96 = .ok (.ifCond .eq 8, 3) := by decide +kernel
theorem dX8_zoneInfo_99 : decode cX8_zoneInfo 99 = .ok (.bipush (-4), 2) := by decide +kernel
theorem dX8_zoneInfo_101 : decode cX8_zoneInfo 101 = .ok (.goto 15, 3) := by decide +kernel
theorem dX8_zoneInfo_104 : decode cX8_zoneInfo 104 = .ok (.aload_n 0, 1) := by decide +kernel
theorem dX8_zoneInfo_105 : decode cX8_zoneInfo 105 = .ok (.getfield 27, 3) := by decide +kernel
theorem dX8_zoneInfo_108 : decode cX8_zoneInfo 108 = .ok (.getfield 111, 3) := by decide +kernel
theorem dX8_zoneInfo_111 : decode cX8_zoneInfo 111 = .ok (.getfield 126, 3) := by decide +kernel
theorem dX8_zoneInfo_114 : decode cX8_zoneInfo 114 = .ok (.iload_n 1, 1) := by decide +kernel
theorem dX8_zoneInfo_115 : decode cX8_zoneInfo 115 = .ok (.iaload, 1) := by decide +kernel
theorem dX8_zoneInfo_116 : decode cX8_zoneInfo 116 = .ok (.ireturn, 1) := by decide +kernel
theorem dX8_zoneInfo_117 : decode cX8_zoneInfo 117 = .ok (.iconst (-1), 1) := by decide +kernel
theorem dX8_zoneInfo_118 : decode cX8_zoneInfo 118 = .ok (.ireturn, 1) := by decide +kernel
theorem dX8_count_0 : decode cX8_count 0 = .ok (.iload_n 1, 1) := by decide +kernel
theorem dX8_count_1 : decode cX8_count 1 = .ok (.tableswitch 108 0 5 #[39, 54, 69, 81, 92, 100], 39) := by decide +kernel
theorem dX8_count_40 : decode cX8_count 40 = .ok (.aload_n 0, 1) := by decide +kernel
theorem dX8_count_41 : decode cX8_count 41 = .ok (.getfield 10, 3) := by decide +kernel
theorem dX8_count_44 : decode cX8_count 44 = .ok (.getfield 61, 3) := by decide +kernel
theorem dX8_count_47 : decode cX8_count 47 = .ok (.aload_n 0, 1) := by decide +kernel
theorem dX8_count_48 : decode cX8_count 48 = .ok (.getfield 47, 3) := by decide +kernel
theorem dX8_count_51 : decode cX8_count 51 = .ok (.invokevirtual 129, 3) := by decide +kernel
theorem dX8_count_54 : decode cX8_count 54 = .ok (.ireturn, 1) := by decide +kernel
theorem dX8_count_55 : decode cX8_count 55 = .ok (.aload_n 0, 1) := by decide +kernel
theorem dX8_count_56 : decode cX8_count 56 = .ok (.getfield 27, 3) := by decide +kernel
theorem dX8_count_59 : decode cX8_count 59 = .ok (.getfield 111, 3) := by decide +kernel
theorem dX8_count_62 : decode cX8_count 62 = .ok (.aload_n 0, 1) := by decide +kernel
theorem dX8_count_63 : decode cX8_count 63 = .ok (.getfield 47, 3) := by decide +kernel
theorem dX8_count_66 : decode cX8_count 66 = .ok (.invokevirtual 129, 3) := by decide +kernel
theorem dX8_count_69 : decode cX8_count 69 = .ok (.ireturn, 1) := by decide +kernel
theorem dX8_count_70 : decode cX8_count 70 = .ok (.aload_n 0, 1) := by decide +kernel
theorem dX8_count_71 : decode cX8_count 71 = .ok (.getfield 19, 3) := by decide +kernel
theorem dX8_count_74 : decode cX8_count 74 = .ok (.aload_n 0, 1) := by decide +kernel
theorem dX8_count_75 : decode cX8_count 75 = .ok (.getfield 47, 3) := by decide +kernel
theorem dX8_count_78 : decode cX8_count 78 = .ok (.invokevirtual 133, 3) := by decide +kernel
theorem dX8_count_81 : decode cX8_count 81 = .ok (.ireturn, 1) := by decide +kernel
theorem dX8_count_82 : decode cX8_count 82 = .ok (.aload_n 0, 1) := by decide +kernel
theorem dX8_count_83 : decode cX8_count 83 = .ok (.getfield 32, 3) := by decide +kernel
theorem dX8_count_86 : decode cX8_count 86 = .ok (.getfield 136, 3) := by decide +kernel
theorem dX8_count_89 : decode cX8_count 89 = .ok (.getfield 137, 3) := by decide +kernel
theorem dX8_count_92 : decode cX8_count 92 = .ok (.ireturn, 1) := by decide +kernel
theorem dX8_count_93 : decode cX8_count 93 = .ok (.aload_n 0, 1) := by decide +kernel
theorem dX8_count_94 : decode cX8_count 94 = .ok (.getfield 36, 3) := by decide +kernel
theorem dX8_count_97 : decode cX8_count 97 = .ok (.getfield 140, 3) := by decide +kernel
theorem dX8_count_100 : decode cX8_count 100 = .ok (.ireturn, 1) := by decide +kernel
theorem dX8_count_101 : decode cX8_count 101 = .ok (.aload_n 0, 1) := by decide +kernel
theorem dX8_count_102 : decode cX8_count 102 = .ok (.getfield 36, 3) := by decide +kernel
theorem dX8_count_105 : decode cX8_count 105 = .ok (.getfield 143, 3) := by decide +kernel
theorem dX8_count_108 : decode cX8_count 108 = .ok (.ireturn, 1) := by decide +kernel
theorem dX8_count_109 : decode cX8_count 109 = .ok (.iconst (-1), 1) := by decide +kernel
theorem dX8_count_110 : decode cX8_count 110 = .ok (.ireturn, 1) := by decide +kernel
theorem dX8_set_0 : decode cX8_set 0 = .ok (.aload_n 0, 1) := by decide +kernel
theorem dX8_set_1 : decode cX8_set 1 = .ok (.getfield 27, 3) := by decide +kernel
theorem dX8_set_4 : decode cX8_set 4 = .ok (.getfield 111, 3) := by decide +kernel
theorem dX8_set_7 : decode cX8_set 7 = .ok (.iload_n 1, 1) := by decide +kernel
theorem dX8_set_8 : decode cX8_set 8 = .ok (.invokevirtual 75, 3) := by decide +kernel
theorem dX8_set_11 : decode cX8_set 11 = .ok (.ifCond .eq 35, 3) := by decide +kernel
theorem dX8_set_14 : decode cX8_set 14 = .ok (.iload_n 2, 1) := by decide +kernel
theorem dX8_set_15 : decode cX8_set 15 = .ok (.invokestatic 97, 3) := by decide +kernel
theorem dX8_set_18 : decode cX8_set 18 = .ok (.ifCond .eq 28, 3) := by decide +kernel
theorem dX8_set_21 : decode cX8_set 21 = .ok (.iload_n 3, 1) := by decide +kernel
theorem dX8_set_22 : decode cX8_set 22 = .ok (.iload 4, 2) := by decide +kernel
theorem dX8_set_24 : decode cX8_set 24 = .ok (.invokestatic 146, 3) := by decide +kernel
theorem dX8_set_27 : decode cX8_set 27 = .ok (.ifCond .eq 19, 3) := by decide +kernel
theorem dX8_set_30 : decode cX8_set 30 = .ok (.iload_n 2, 1) := by decide +kernel
theorem dX8_set_31 : decode cX8_set 31 = .ok (.aload_n 0, 1) := by decide +kernel
theorem dX8_set_32 : decode cX8_set 32 = .ok (.getfield 27, 3) := by decide +kernel
theorem dX8_set_35 : decode cX8_set 35 = .ok (.getfield 120, 3) := by decide +kernel
theorem dX8_set_38 : decode cX8_set 38 = .ok (.iload_n 1, 1) := by decide +kernel
theorem dX8_set_39 : decode cX8_set 39 = .ok (.iaload, 1) := by decide +kernel
theorem dX8_set_40 : decode cX8_set 40 = .ok (.invokestatic 149, 3) := by decide +kernel
theorem dX8_set_43 : decode cX8_set 43 = .ok (.ifCond .ne 5, 3) := by decide +kernel
theorem dX8_set_46 : decode cX8_set 46 = .ok (.iconst (-1), 1) := by decide +kernel
theorem dX8_set_47 : decode cX8_set 47 = .ok (.ireturn, 1) := by decide +kernel
theorem dX8_set_48 : decode cX8_set 48 = .ok (.aload_n 0, 1) := by decide +kernel
theorem dX8_set_49 : decode cX8_set 49 = .ok (.getfield 27, 3) := by decide +kernel
theorem dX8_set_52 : decode cX8_set 52 = .ok (.getfield 111, 3) := by decide +kernel
theorem dX8_set_55 : decode cX8_set 55 = .ok (.iload_n 1, 1) := by decide +kernel
theorem dX8_set_56 : decode cX8_set 56 = .ok (.aload_n 0, 1) := by decide +kernel
theorem dX8_set_57 : decode cX8_set 57 = .ok (.getfield 47, 3) := by decide +kernel
theorem dX8_set_60 : decode cX8_set 60 = .ok (.invokevirtual 78, 3) := by decide +kernel
theorem dX8_set_63 : decode cX8_set 63 = .ok (.ifCond .ne 6, 3) := by decide +kernel
theorem dX8_set_66 : decode cX8_set 66 = .ok (.bipush (-2), 2) := by decide +kernel
theorem dX8_set_68 : decode cX8_set 68 = .ok (.ireturn, 1) := by decide +kernel
theorem dX8_set_69 : decode cX8_set 69 = .ok (.aload_n 0, 1) := by decide +kernel
theorem dX8_set_70 : decode cX8_set 70 = .ok (.getfield 32, 3) := by decide +kernel
theorem dX8_set_73 : decode cX8_set 73 = .ok (.getfield 136, 3) := by decide +kernel
theorem dX8_set_76 : decode cX8_set 76 = .ok (.invokevirtual 65, 3) := by decide +kernel
theorem dX8_set_79 : decode cX8_set 79 = .ok (.ifCond .eq 6, 3) := by decide +kernel
theorem dX8_set_82 : decode cX8_set 82 = .ok (.bipush (-3), 2) := by decide +kernel
theorem dX8_set_84 : decode cX8_set 84 = .ok (.ireturn, 1) := by decide +kernel
theorem dX8_set_85 : decode cX8_set 85 = .ok (.aload_n 0, 1) := by decide +kernel
theorem dX8_set_86 : decode cX8_set 86 = .ok (.getfield 32, 3) := by decide +kernel
theorem dX8_set_89 : decode cX8_set 89 = .ok (.iload_n 1, 1) := by decide +kernel
theorem dX8_set_90 : decode cX8_set 90 = .ok (.iload_n 2, 1) := by decide +kernel
theorem dX8_set_91 : decode cX8_set 91 = .ok (.iload_n 3, 1) := by decide +kernel
theorem dX8_set_92 : decode cX8_set 92 = .ok (.iload 4, 2) := by decide +kernel
theorem dX8_set_94 : decode cX8_set 94 = .ok (.aload_n 0, 1) := by decide +kernel
theorem dX8_set_95 : decode cX8_set 95 = .ok (.getfield 47, 3) := by decide +kernel
theorem dX8_set_98 : decode cX8_set 98 = .ok (.invokevirtual 152, 3) := by decide +kernel
theorem dX8_set_101 : decode cX8_set 101 = .ok (.aload_n 0, 1) := by decide +kernel
theorem dX8_set_102 : decode cX8_set 102 = .ok (.getfield 32, 3) := by decide +kernel
theorem dX8_set_105 : decode cX8_set 105 = .ok (.iload_n 1, 1) := by decide +kernel
theorem dX8_set_106 : decode cX8_set 106 = .ok (.aload_n 0, 1) := by decide +kernel
theorem dX8_set_107 : decode cX8_set 107 = .ok (.getfield 47, 3) := by decide +kernel
theorem dX8_set_110 : decode cX8_set 110 = .ok (.invokevirtual 114, 3) := by decide +kernel
theorem dX8_set_113 : decode cX8_set 113 = .ok (.ireturn, 1) := by decide +kernel
theorem dX8_clear_0 : decode cX8_clear 0 = .ok (.aload_n 0, 1) := by decide +kernel
theorem dX8_clear_1 : decode cX8_clear 1 = .ok (.getfield 27, 3) := by decide +kernel
theorem dX8_clear_4 : decode cX8_clear 4 = .ok (.getfield 111, 3) := by decide +kernel
theorem dX8_clear_7 : decode cX8_clear 7 = .ok (.iload_n 1, 1) := by decide +kernel
theorem dX8_clear_8 : decode cX8_clear 8 = .ok (.invokevirtual 75, 3) := by decide +kernel
theorem dX8_clear_11 : decode cX8_clear 11 = .ok (.ifCond .eq 17, 3) := by decide +kernel
theorem dX8_clear_14 : decode cX8_clear 14 = .ok (.iload_n 2, 1) := by decide +kernel
theorem dX8_clear_15 : decode cX8_clear 15 = .ok (.invokestatic 97, 3) := by decide +kernel
theorem dX8_clear_18 : decode cX8_clear 18 = .ok (.ifCond .eq 10, 3) := by decide +kernel
theorem dX8_clear_21 : decode cX8_clear 21 = .ok (.iload_n 3, 1) := by decide +kernel
theorem dX8_clear_22 : decode cX8_clear 22 = .ok (.invokestatic 156, 3) := by decide +kernel
theorem dX8_clear_25 : decode cX8_clear 25 = .ok (.ifCond .ne 5, 3) := by decide +kernel
theorem dX8_clear_28 : decode cX8_clear 28 = .ok (.iconst (-1), 1) := by decide +kernel
theorem dX8_clear_29 : decode cX8_clear 29 = .ok (.ireturn, 1) := by decide +kernel
theorem dX8_clear_30 : decode cX8_clear 30 = .ok (.aload_n 0, 1) := by decide +kernel
theorem dX8_clear_31 : decode cX8_clear 31 = .ok (.getfield 27, 3) := by decide +kernel
theorem dX8_clear_34 : decode cX8_clear 34 = .ok (.getfield 111, 3) := by decide +kernel
theorem dX8_clear_37 : decode cX8_clear 37 = .ok (.iload_n 1, 1) := by decide +kernel
theorem dX8_clear_38 : decode cX8_clear 38 = .ok (.aload_n 0, 1) := by decide +kernel
theorem dX8_clear_39 : decode cX8_clear 39 = .ok (.getfield 47, 3) := by decide +kernel
theorem dX8_clear_42 : decode cX8_clear 42 = .ok (.invokevirtual 78, 3) := by decide +kernel
theorem dX8_clear_45 : decode cX8_clear 45 = .ok (.ifCond .ne 6, 3) := by decide +kernel
theorem dX8_clear_48 : decode cX8_clear 48 = .ok (.bipush (-2), 2) := by decide +kernel
theorem dX8_clear_50 : decode cX8_clear 50 = .ok (.ireturn, 1) := by decide +kernel
theorem dX8_clear_51 : decode cX8_clear 51 = .ok (.aload_n 0, 1) := by decide +kernel
theorem dX8_clear_52 : decode cX8_clear 52 = .ok (.getfield 32, 3) := by decide +kernel
theorem dX8_clear_55 : decode cX8_clear 55 = .ok (.getfield 136, 3) := by decide +kernel
theorem dX8_clear_58 : decode cX8_clear 58 = .ok (.invokevirtual 65, 3) := by decide +kernel
theorem dX8_clear_61 : decode cX8_clear 61 = .ok (.ifCond .eq 6, 3) := by decide +kernel
theorem dX8_clear_64 : decode cX8_clear 64 = .ok (.bipush (-3), 2) := by decide +kernel
theorem dX8_clear_66 : decode cX8_clear 66 = .ok (.ireturn, 1) := by decide +kernel
theorem dX8_clear_67 : decode cX8_clear 67 = .ok (.aload_n 0, 1) := by decide +kernel
theorem dX8_clear_68 : decode cX8_clear 68 = .ok (.getfield 32, 3) := by decide +kernel
theorem dX8_clear_71 : decode cX8_clear 71 = .ok (.iload_n 1, 1) := by decide +kernel
theorem dX8_clear_72 : decode cX8_clear 72 = .ok (.iload_n 2, 1) := by decide +kernel
theorem dX8_clear_73 : decode cX8_clear 73 = .ok (.iload_n 3, 1) := by decide +kernel
theorem dX8_clear_74 : decode cX8_clear 74 = .ok (.aload_n 0, 1) := by decide +kernel
theorem dX8_clear_75 : decode cX8_clear 75 = .ok (.getfield 47, 3) := by decide +kernel
theorem dX8_clear_78 : decode cX8_clear 78 = .ok (.invokevirtual 159, 3) := by decide +kernel
theorem dX8_clear_81 : decode cX8_clear 81 = .ok (.istore 4, 2) := by decide +kernel
theorem dX8_clear_83 : decode cX8_clear 83 = .ok (.iload 4, 2) := by decide +kernel
theorem dX8_clear_85 : decode cX8_clear 85 = .ok (.iconst (-1), 1) := by decide +kernel
theorem dX8_clear_86 : decode cX8_clear 86 = .ok (.if_icmp .ne 6, 3) := by decide +kernel
theorem dX8_clear_89 : decode cX8_clear 89 = .ok (.bipush (-4), 2) := by decide +kernel
theorem dX8_clear_91 : decode cX8_clear 91 = .ok (.ireturn, 1) := by decide +kernel
theorem dX8_clear_92 : decode cX8_clear 92 = .ok (.aload_n 0, 1) := by decide +kernel
theorem dX8_clear_93 : decode cX8_clear 93 = .ok (.getfield 32, 3) := by decide +kernel
theorem dX8_clear_96 : decode cX8_clear 96 = .ok (.iload 4, 2) := by decide +kernel
theorem dX8_clear_98 : decode cX8_clear 98 = .ok (.aload_n 0, 1) := by decide +kernel
theorem dX8_clear_99 : decode cX8_clear 99 = .ok (.getfield 47, 3) := by decide +kernel
theorem dX8_clear_102 : decode cX8_clear 102 = .ok (.invokevirtual 161, 3) := by decide +kernel
theorem dX8_clear_105 : decode cX8_clear 105 = .ok (.aload_n 0, 1) := by decide +kernel
theorem dX8_clear_106 : decode cX8_clear 106 = .ok (.getfield 32, 3) := by decide +kernel
theorem dX8_clear_109 : decode cX8_clear 109 = .ok (.getfield 164, 3) := by decide +kernel
theorem dX8_clear_112 : decode cX8_clear 112 = .ok (.iload 4, 2) := by decide +kernel
theorem dX8_clear_114 : decode cX8_clear 114 = .ok (.iaload, 1) := by decide +kernel
theorem dX8_clear_115 : decode cX8_clear 115 = .ok (.ireturn, 1) := by decide +kernel
theorem dX8_record_0 : decode cX8_record 0 = .ok (.aload_n 0, 1) := by decide +kernel
theorem dX8_record_1 : decode cX8_record 1 = .ok (.getfield 27, 3) := by decide +kernel
theorem dX8_record_4 : decode cX8_record 4 = .ok (.getfield 111, 3) := by decide +kernel
theorem dX8_record_7 : decode cX8_record 7 = .ok (.iload_n 1, 1) := by decide +kernel
theorem dX8_record_8 : decode cX8_record 8 = .ok (.invokevirtual 75, 3) := by decide +kernel
theorem dX8_record_11 : decode cX8_record 11 = .ok (.ifCond .eq 26, 3) := by decide +kernel
theorem dX8_record_14 : decode cX8_record 14 = .ok (.iload_n 2, 1) := by decide +kernel
theorem dX8_record_15 : decode cX8_record 15 = .ok (.invokestatic 97, 3) := by decide +kernel
theorem dX8_record_18 : decode cX8_record 18 = .ok (.ifCond .eq 19, 3) := by decide +kernel
theorem dX8_record_21 : decode cX8_record 21 = .ok (.iload_n 3, 1) := by decide +kernel
theorem dX8_record_22 : decode cX8_record 22 = .ok (.invokestatic 156, 3) := by decide +kernel
theorem dX8_record_25 : decode cX8_record 25 = .ok (.ifCond .eq 12, 3) := by decide +kernel
theorem dX8_record_28 : decode cX8_record 28 = .ok (.aload_n 0, 1) := by decide +kernel
theorem dX8_record_29 : decode cX8_record 29 = .ok (.iload 4, 2) := by decide +kernel
theorem dX8_record_31 : decode cX8_record 31 = .ok (.invokevirtual 90, 3) := by decide +kernel
theorem dX8_record_34 : decode cX8_record 34 = .ok (.ifCond .ne 5, 3) := by decide +kernel
theorem dX8_record_37 : decode cX8_record 37 = .ok (.iconst (-1), 1) := by decide +kernel
theorem dX8_record_38 : decode cX8_record 38 = .ok (.ireturn, 1) := by decide +kernel
theorem dX8_record_39 : decode cX8_record 39 = .ok (.aload_n 0, 1) := by decide +kernel
theorem dX8_record_40 : decode cX8_record 40 = .ok (.getfield 27, 3) := by decide +kernel
theorem dX8_record_43 : decode cX8_record 43 = .ok (.getfield 111, 3) := by decide +kernel
theorem dX8_record_46 : decode cX8_record 46 = .ok (.iload_n 1, 1) := by decide +kernel
theorem dX8_record_47 : decode cX8_record 47 = .ok (.iload 4, 2) := by decide +kernel
theorem dX8_record_49 : decode cX8_record 49 = .ok (.invokevirtual 78, 3) := by decide +kernel
theorem dX8_record_52 : decode cX8_record 52 = .ok (.ifCond .ne 6, 3) := by decide +kernel
theorem dX8_record_55 : decode cX8_record 55 = .ok (.bipush (-2), 2) := by decide +kernel
theorem dX8_record_57 : decode cX8_record 57 = .ok (.ireturn, 1) := by decide +kernel
theorem dX8_record_58 : decode cX8_record 58 = .ok (.aload_n 0, 1) := by decide +kernel
theorem dX8_record_59 : decode cX8_record 59 = .ok (.getfield 32, 3) := by decide +kernel
theorem dX8_record_62 : decode cX8_record 62 = .ok (.iload_n 1, 1) := by decide +kernel
theorem dX8_record_63 : decode cX8_record 63 = .ok (.iload_n 2, 1) := by decide +kernel
theorem dX8_record_64 : decode cX8_record 64 = .ok (.iload_n 3, 1) := by decide +kernel
theorem dX8_record_65 : decode cX8_record 65 = .ok (.iload 4, 2) := by decide +kernel
theorem dX8_record_67 : decode cX8_record 67 = .ok (.invokevirtual 159, 3) := by decide +kernel
theorem dX8_record_70 : decode cX8_record 70 = .ok (.istore 5, 2) := by decide +kernel
theorem dX8_record_72 : decode cX8_record 72 = .ok (.iload 5, 2) := by decide +kernel
theorem dX8_record_74 : decode cX8_record 74 = .ok (.iconst (-1), 1) := by decide +kernel
theorem dX8_record_75 : decode cX8_record 75 = .ok (.if_icmp .ne 8, 3) := by decide +kernel
theorem dX8_record_78 : decode cX8_record 78 = .ok (.bipush (-4), 2) := by decide +kernel
theorem dX8_record_80 : decode cX8_record 80 = .ok (.goto 13, 3) := by decide +kernel
theorem dX8_record_83 : decode cX8_record 83 = .ok (.aload_n 0, 1) := by decide +kernel
theorem dX8_record_84 : decode cX8_record 84 = .ok (.getfield 32, 3) := by decide +kernel
theorem dX8_record_87 : decode cX8_record 87 = .ok (.getfield 164, 3) := by decide +kernel
theorem dX8_record_90 : decode cX8_record 90 = .ok (.iload 5, 2) := by decide +kernel
theorem dX8_record_92 : decode cX8_record 92 = .ok (.iaload, 1) := by decide +kernel
theorem dX8_record_93 : decode cX8_record 93 = .ok (.ireturn, 1) := by decide +kernel
theorem dX8_serial_0 : decode cX8_serial 0 = .ok (.aload_n 0, 1) := by decide +kernel
theorem dX8_serial_1 : decode cX8_serial 1 = .ok (.getfield 27, 3) := by decide +kernel
theorem dX8_serial_4 : decode cX8_serial 4 = .ok (.getfield 111, 3) := by decide +kernel
theorem dX8_serial_7 : decode cX8_serial 7 = .ok (.iload_n 1, 1) := by decide +kernel
theorem dX8_serial_8 : decode cX8_serial 8 = .ok (.invokevirtual 75, 3) := by decide +kernel
theorem dX8_serial_11 : decode cX8_serial 11 = .ok (.ifCond .eq 11, 3) := by decide +kernel
theorem dX8_serial_14 : decode cX8_serial 14 = .ok (.aload_n 0, 1) := by decide +kernel
theorem dX8_serial_15 : decode cX8_serial 15 = .ok (.iload_n 2, 1) := by decide +kernel
theorem dX8_serial_16 : decode cX8_serial 16 = .ok (.invokevirtual 90, 3) := by decide +kernel
theorem dX8_serial_19 : decode cX8_serial 19 = .ok (.ifCond .ne 5, 3) := by decide +kernel
theorem dX8_serial_22 : decode cX8_serial 22 = .ok (.iconst (-1), 1) := by decide +kernel
theorem dX8_serial_23 : decode cX8_serial 23 = .ok (.ireturn, 1) := by decide +kernel
theorem dX8_serial_24 : decode cX8_serial 24 = .ok (.aload_n 0, 1) := by decide +kernel
theorem dX8_serial_25 : decode cX8_serial 25 = .ok (.getfield 32, 3) := by decide +kernel
theorem dX8_serial_28 : decode cX8_serial 28 = .ok (.iload_n 1, 1) := by decide +kernel
theorem dX8_serial_29 : decode cX8_serial 29 = .ok (.iload_n 2, 1) := by decide +kernel
theorem dX8_serial_30 : decode cX8_serial 30 = .ok (.invokevirtual 167, 3) := by decide +kernel
theorem dX8_serial_33 : decode cX8_serial 33 = .ok (.ireturn, 1) := by decide +kernel
theorem dX8_change_0 : decode cX8_change 0 = .ok (.aload_n 0, 1) := by decide +kernel
theorem dX8_change_1 : decode cX8_change 1 = .ok (.getfield 27, 3) := by decide +kernel
theorem dX8_change_4 : decode cX8_change 4 = .ok (.getfield 111, 3) := by decide +kernel
theorem dX8_change_7 : decode cX8_change 7 = .ok (.iload_n 1, 1) := by decide +kernel
theorem dX8_change_8 : decode cX8_change 8 = .ok (.invokevirtual 75, 3) := by decide +kernel
theorem dX8_change_11 : decode cX8_change 11 = .ok (.ifCond .eq 16, 3) := by decide +kernel
theorem dX8_change_14 : decode cX8_change 14 = .ok (.iload_n 2, 1) := by decide +kernel
theorem dX8_change_15 : decode cX8_change 15 = .ok (.ifCond .lt 12, 3) := by decide +kernel
theorem dX8_change_18 : decode cX8_change 18 = .ok (.iload_n 3, 1) := by decide +kernel
theorem dX8_change_19 : decode cX8_change 19 = .ok (.ifCond .lt 8, 3) := by decide +kernel
theorem dX8_change_22 : decode cX8_change 22 = .ok (.iload_n 3, 1) := by decide +kernel
theorem dX8_change_23 : decode cX8_change 23 = .ok (.iconst 3, 1) := by decide +kernel
theorem dX8_change_24 : decode cX8_change 24 = .ok (.if_icmp .le 5, 3) := by decide +kernel
theorem dX8_change_27 : decode cX8_change 27 = .ok (.iconst (-1), 1) := by decide +kernel
theorem dX8_change_28 : decode cX8_change 28 = .ok (.ireturn, 1) := by decide +kernel
theorem dX8_change_29 : decode cX8_change 29 = .ok (.aload_n 0, 1) := by decide +kernel
theorem dX8_change_30 : decode cX8_change 30 = .ok (.getfield 32, 3) := by decide +kernel
theorem dX8_change_33 : decode cX8_change 33 = .ok (.iload_n 1, 1) := by decide +kernel
theorem dX8_change_34 : decode cX8_change 34 = .ok (.iload_n 2, 1) := by decide +kernel
theorem dX8_change_35 : decode cX8_change 35 = .ok (.invokevirtual 170, 3) := by decide +kernel
theorem dX8_change_38 : decode cX8_change 38 = .ok (.istore 4, 2) := by decide +kernel
theorem dX8_change_40 : decode cX8_change 40 = .ok (.iload 4, 2) := by decide +kernel
theorem dX8_change_42 : decode cX8_change 42 = .ok (.iconst (-1), 1) := by decide +kernel
theorem dX8_change_43 : decode cX8_change 43 = .ok (.if_icmp .ne 6, 3) := by decide +kernel
theorem dX8_change_46 : decode cX8_change 46 = .ok (.bipush (-4), 2) := by decide +kernel
theorem dX8_change_48 : decode cX8_change 48 = .ok (.ireturn, 1) := by decide +kernel
theorem dX8_change_49 : decode cX8_change 49 = .ok (.iload_n 3, 1) := by decide +kernel
theorem dX8_change_50 : decode cX8_change 50 = .ok (.tableswitch 62 0 2 #[26, 40, 51], 26) := by decide +kernel
theorem dX8_change_76 : decode cX8_change 76 = .ok (.aload_n 0, 1) := by decide +kernel
theorem dX8_change_77 : decode cX8_change 77 = .ok (.getfield 32, 3) := by decide +kernel
theorem dX8_change_80 : decode cX8_change 80 = .ok (.getfield 136, 3) := by decide +kernel
theorem dX8_change_83 : decode cX8_change 83 = .ok (.getfield 123, 3) := by decide +kernel
theorem dX8_change_86 : decode cX8_change 86 = .ok (.iload 4, 2) := by decide +kernel
theorem dX8_change_88 : decode cX8_change 88 = .ok (.iaload, 1) := by decide +kernel
theorem dX8_change_89 : decode cX8_change 89 = .ok (.ireturn, 1) := by decide +kernel
theorem dX8_change_90 : decode cX8_change 90 = .ok (.aload_n 0, 1) := by decide +kernel
theorem dX8_change_91 : decode cX8_change 91 = .ok (.getfield 32, 3) := by decide +kernel
theorem dX8_change_94 : decode cX8_change 94 = .ok (.getfield 173, 3) := by decide +kernel
theorem dX8_change_97 : decode cX8_change 97 = .ok (.iload 4, 2) := by decide +kernel
theorem dX8_change_99 : decode cX8_change 99 = .ok (.iaload, 1) := by decide +kernel
theorem dX8_change_100 : decode cX8_change 100 = .ok (.ireturn, 1) := by decide +kernel
theorem dX8_change_101 : decode cX8_change 101 = .ok (.aload_n 0, 1) := by decide +kernel
theorem dX8_change_102 : decode cX8_change 102 = .ok (.getfield 32, 3) := by decide +kernel
theorem dX8_change_105 : decode cX8_change 105 = .ok (.getfield 176, 3) := by decide +kernel
theorem dX8_change_108 : decode cX8_change 108 = .ok (.iload 4, 2) := by decide +kernel
theorem dX8_change_110 : decode cX8_change 110 = .ok (.iaload, 1) := by decide +kernel
theorem dX8_change_111 : decode cX8_change 111 = .ok (.ireturn, 1) := by decide +kernel
theorem dX8_change_112 : decode cX8_change 112 = .ok (.aload_n 0, 1) := by decide +kernel
theorem dX8_change_113 : decode cX8_change 113 = .ok (.getfield 32, 3) := by decide +kernel
theorem dX8_change_116 : decode cX8_change 116 = .ok (.getfield 164, 3) := by decide +kernel
theorem dX8_change_119 : decode cX8_change 119 = .ok (.iload 4, 2) := by decide +kernel
theorem dX8_change_121 : decode cX8_change 121 = .ok (.iaload, 1) := by decide +kernel
theorem dX8_change_122 : decode cX8_change 122 = .ok (.ireturn, 1) := by decide +kernel
theorem dX8_lay_0 : decode cX8_lay 0 = .ok (.aload_n 0, 1) := by decide +kernel
theorem dX8_lay_1 : decode cX8_lay 1 = .ok (.getfield 27, 3) := by decide +kernel
theorem dX8_lay_4 : decode cX8_lay 4 = .ok (.getfield 111, 3) := by decide +kernel
theorem dX8_lay_7 : decode cX8_lay 7 = .ok (.iload_n 1, 1) := by decide +kernel
theorem dX8_lay_8 : decode cX8_lay 8 = .ok (.invokevirtual 75, 3) := by decide +kernel
theorem dX8_lay_11 : decode cX8_lay 11 = .ok (.ifCond .ne 5, 3) := by decide +kernel
theorem dX8_lay_14 : decode cX8_lay 14 = .ok (.iconst (-1), 1) := by decide +kernel
theorem dX8_lay_15 : decode cX8_lay 15 = .ok (.ireturn, 1) := by decide +kernel
theorem dX8_lay_16 : decode cX8_lay 16 = .ok (.aload_n 0, 1) := by decide +kernel
theorem dX8_lay_17 : decode cX8_lay 17 = .ok (.getfield 27, 3) := by decide +kernel
theorem dX8_lay_20 : decode cX8_lay 20 = .ok (.getfield 111, 3) := by decide +kernel
theorem dX8_lay_23 : decode cX8_lay 23 = .ok (.iload_n 1, 1) := by decide +kernel
theorem dX8_lay_24 : decode cX8_lay 24 = .ok (.aload_n 0, 1) := by decide +kernel
theorem dX8_lay_25 : decode cX8_lay 25 = .ok (.getfield 47, 3) := by decide +kernel
theorem dX8_lay_28 : decode cX8_lay 28 = .ok (.invokevirtual 78, 3) := by decide +kernel
theorem dX8_lay_31 : decode cX8_lay 31 = .ok (.ifCond .eq 34, 3) := by decide +kernel
theorem dX8_lay_34 : decode cX8_lay 34 = .ok (.aload_n 0, 1) := by decide +kernel
theorem dX8_lay_35 : decode cX8_lay 35 = .ok (.getfield 43, 3) := by decide +kernel
theorem dX8_lay_38 : decode cX8_lay 38 = .ok (.invokevirtual 179, 3) := by decide +kernel
theorem dX8_lay_41 : decode cX8_lay 41 = .ok (.bipush (-4), 2) := by decide +kernel
theorem dX8_lay_43 : decode cX8_lay 43 = .ok (.if_icmp .ne 22, 3) := by decide +kernel
theorem dX8_lay_46 : decode cX8_lay 46 = .ok (.aload_n 0, 1) := by decide +kernel
theorem dX8_lay_47 : decode cX8_lay 47 = .ok (.getfield 43, 3) := by decide +kernel
theorem dX8_lay_50 : decode cX8_lay 50 = .ok (.aload_n 0, 1) := by decide +kernel
theorem dX8_lay_51 : decode cX8_lay 51 = .ok (.getfield 27, 3) := by decide +kernel
theorem dX8_lay_54 : decode cX8_lay 54 = .ok (.getfield 120, 3) := by decide +kernel
theorem dX8_lay_57 : decode cX8_lay 57 = .ok (.iload_n 1, 1) := by decide +kernel
theorem dX8_lay_58 : decode cX8_lay 58 = .ok (.iaload, 1) := by decide +kernel
theorem dX8_lay_59 : decode cX8_lay 59 = .ok (.invokevirtual 183, 3) := by decide +kernel
theorem dX8_lay_62 : decode cX8_lay 62 = .ok (.ifCond .ne 6, 3) := by decide +kernel
theorem dX8_lay_65 : decode cX8_lay 65 = .ok (.bipush (-2), 2) := by decide +kernel
theorem dX8_lay_67 : decode cX8_lay 67 = .ok (.ireturn, 1) := by decide +kernel
theorem dX8_lay_68 : decode cX8_lay 68 = .ok (.aload_n 0, 1) := by decide +kernel
theorem dX8_lay_69 : decode cX8_lay 69 = .ok (.getfield 32, 3) := by decide +kernel
theorem dX8_lay_72 : decode cX8_lay 72 = .ok (.getfield 136, 3) := by decide +kernel
theorem dX8_lay_75 : decode cX8_lay 75 = .ok (.aload_n 0, 1) := by decide +kernel
theorem dX8_lay_76 : decode cX8_lay 76 = .ok (.getfield 43, 3) := by decide +kernel
theorem dX8_lay_79 : decode cX8_lay 79 = .ok (.getfield 186, 3) := by decide +kernel
theorem dX8_lay_82 : decode cX8_lay 82 = .ok (.invokevirtual 189, 3) := by decide +kernel
theorem dX8_lay_85 : decode cX8_lay 85 = .ok (.ifCond .ne 6, 3) := by decide +kernel
theorem dX8_lay_88 : decode cX8_lay 88 = .ok (.bipush (-3), 2) := by decide +kernel
theorem dX8_lay_90 : decode cX8_lay 90 = .ok (.ireturn, 1) := by decide +kernel
theorem dX8_lay_91 : decode cX8_lay 91 = .ok (.aload_n 0, 1) := by decide +kernel
theorem dX8_lay_92 : decode cX8_lay 92 = .ok (.iload_n 1, 1) := by decide +kernel
theorem dX8_lay_93 : decode cX8_lay 93 = .ok (.invokevirtual 192, 3) := by decide +kernel
theorem dX8_lay_96 : decode cX8_lay 96 = .ok (.aload_n 0, 1) := by decide +kernel
theorem dX8_lay_97 : decode cX8_lay 97 = .ok (.getfield 32, 3) := by decide +kernel
theorem dX8_lay_100 : decode cX8_lay 100 = .ok (.iload_n 1, 1) := by decide +kernel
theorem dX8_lay_101 : decode cX8_lay 101 = .ok (.aload_n 0, 1) := by decide +kernel
theorem dX8_lay_102 : decode cX8_lay 102 = .ok (.getfield 47, 3) := by decide +kernel
theorem dX8_lay_105 : decode cX8_lay 105 = .ok (.invokevirtual 114, 3) := by decide +kernel
theorem dX8_lay_108 : decode cX8_lay 108 = .ok (.ireturn, 1) := by decide +kernel
theorem dX8_layChanges_0 : decode cX8_layChanges 0 = .ok (.iconst 0, 1) := by decide +kernel
theorem dX8_layChanges_1 : decode cX8_layChanges 1 = .ok (.istore_n 2, 1) := by decide +kernel
theorem dX8_layChanges_2 : decode cX8_layChanges 2 = .ok (.iload_n 2, 1) := by decide +kernel
theorem dX8_layChanges_3 : decode cX8_layChanges 3 = .ok (.aload_n 0, 1) := by decide +kernel
theorem dX8_layChanges_4 : decode cX8_layChanges 4 = .ok (.getfield 43, 3) := by decide +kernel
theorem dX8_layChanges_7 : decode cX8_layChanges 7 = .ok (.getfield 186, 3) := by decide +kernel
theorem dX8_layChanges_10 : decode cX8_layChanges 10 = .ok (.if_icmp .ge 112, 3) := by decide +kernel
theorem dX8_layChanges_13 : decode cX8_layChanges 13 = .ok (.aload_n 0, 1) := by decide +kernel
theorem dX8_layChanges_14 : decode cX8_layChanges 14 = .ok (.getfield 43, 3) := by decide +kernel
theorem dX8_layChanges_17 : decode cX8_layChanges 17 = .ok (.getfield 196, 3) := by decide +kernel
theorem dX8_layChanges_20 : decode cX8_layChanges 20 = .ok (.iload_n 2, 1) := by decide +kernel
theorem dX8_layChanges_21 : decode cX8_layChanges 21 = .ok (.iaload, 1) := by decide +kernel
theorem dX8_layChanges_22 : decode cX8_layChanges 22 = .ok (.iconst (-1), 1) := by decide +kernel
theorem dX8_layChanges_23 : decode cX8_layChanges 23 = .ok (.if_icmp .eq 45, 3) := by decide +kernel
theorem dX8_layChanges_26 : decode cX8_layChanges 26 = .ok (.aload_n 0, 1) := by decide +kernel
theorem dX8_layChanges_27 : decode cX8_layChanges 27 = .ok (.getfield 32, 3) := by decide +kernel
theorem dX8_layChanges_30 : decode cX8_layChanges 30 = .ok (.iload_n 1, 1) := by decide +kernel
theorem dX8_layChanges_31 : decode cX8_layChanges 31 = .ok (.aload_n 0, 1) := by decide +kernel
theorem dX8_layChanges_32 : decode cX8_layChanges 32 = .ok (.getfield 43, 3) := by decide +kernel
theorem dX8_layChanges_35 : decode cX8_layChanges 35 = .ok (.getfield 197, 3) := by decide +kernel
theorem dX8_layChanges_38 : decode cX8_layChanges 38 = .ok (.iload_n 2, 1) := by decide +kernel
theorem dX8_layChanges_39 : decode cX8_layChanges 39 = .ok (.iaload, 1) := by decide +kernel
theorem dX8_layChanges_40 : decode cX8_layChanges 40 = .ok (.aload_n 0, 1) := by decide +kernel
theorem dX8_layChanges_41 : decode cX8_layChanges 41 = .ok (.getfield 43, 3) := by decide +kernel
theorem dX8_layChanges_44 : decode cX8_layChanges 44 = .ok (.getfield 198, 3) := by decide +kernel
theorem dX8_layChanges_47 : decode cX8_layChanges 47 = .ok (.iload_n 2, 1) := by decide +kernel
theorem dX8_layChanges_48 : decode cX8_layChanges 48 = .ok (.iaload, 1) := by decide +kernel
theorem dX8_layChanges_49 : decode cX8_layChanges 49 = .ok (.aload_n 0, 1) := by decide +kernel
theorem dX8_layChanges_50 : decode cX8_layChanges 50 = .ok (.getfield 43, 3) := by decide +kernel
theorem dX8_layChanges_53 : decode cX8_layChanges 53 = .ok (.getfield 196, 3) := by decide +kernel
theorem dX8_layChanges_56 : decode cX8_layChanges 56 = .ok (.iload_n 2, 1) := by decide +kernel
theorem dX8_layChanges_57 : decode cX8_layChanges 57 = .ok (.iaload, 1) := by decide +kernel
theorem dX8_layChanges_58 : decode cX8_layChanges 58 = .ok (.aload_n 0, 1) := by decide +kernel
theorem dX8_layChanges_59 : decode cX8_layChanges 59 = .ok (.getfield 47, 3) := by decide +kernel
theorem dX8_layChanges_62 : decode cX8_layChanges 62 = .ok (.invokevirtual 152, 3) := by decide +kernel
theorem dX8_layChanges_65 : decode cX8_layChanges 65 = .ok (.goto 51, 3) := by decide +kernel
theorem dX8_layChanges_68 : decode cX8_layChanges 68 = .ok (.aload_n 0, 1) := by decide +kernel
theorem dX8_layChanges_69 : decode cX8_layChanges 69 = .ok (.getfield 32, 3) := by decide +kernel
theorem dX8_layChanges_72 : decode cX8_layChanges 72 = .ok (.iload_n 1, 1) := by decide +kernel
theorem dX8_layChanges_73 : decode cX8_layChanges 73 = .ok (.aload_n 0, 1) := by decide +kernel
theorem dX8_layChanges_74 : decode cX8_layChanges 74 = .ok (.getfield 43, 3) := by decide +kernel
theorem dX8_layChanges_77 : decode cX8_layChanges 77 = .ok (.getfield 197, 3) := by decide +kernel
theorem dX8_layChanges_80 : decode cX8_layChanges 80 = .ok (.iload_n 2, 1) := by decide +kernel
theorem dX8_layChanges_81 : decode cX8_layChanges 81 = .ok (.iaload, 1) := by decide +kernel
theorem dX8_layChanges_82 : decode cX8_layChanges 82 = .ok (.aload_n 0, 1) := by decide +kernel
theorem dX8_layChanges_83 : decode cX8_layChanges 83 = .ok (.getfield 43, 3) := by decide +kernel
theorem dX8_layChanges_86 : decode cX8_layChanges 86 = .ok (.getfield 198, 3) := by decide +kernel
theorem dX8_layChanges_89 : decode cX8_layChanges 89 = .ok (.iload_n 2, 1) := by decide +kernel
theorem dX8_layChanges_90 : decode cX8_layChanges 90 = .ok (.iaload, 1) := by decide +kernel
theorem dX8_layChanges_91 : decode cX8_layChanges 91 = .ok (.aload_n 0, 1) := by decide +kernel
theorem dX8_layChanges_92 : decode cX8_layChanges 92 = .ok (.getfield 47, 3) := by decide +kernel
theorem dX8_layChanges_95 : decode cX8_layChanges 95 = .ok (.invokevirtual 159, 3) := by decide +kernel
theorem dX8_layChanges_98 : decode cX8_layChanges 98 = .ok (.istore_n 3, 1) := by decide +kernel
theorem dX8_layChanges_99 : decode cX8_layChanges 99 = .ok (.iload_n 3, 1) := by decide +kernel
theorem dX8_layChanges_100 : decode cX8_layChanges 100 = .ok (.iconst (-1), 1) := by decide +kernel
theorem dX8_layChanges_101 : decode cX8_layChanges 101 = .ok (.if_icmp .eq 15, 3) := by decide +kernel
theorem dX8_layChanges_104 : decode cX8_layChanges 104 = .ok (.aload_n 0, 1) := by decide +kernel
theorem dX8_layChanges_105 : decode cX8_layChanges 105 = .ok (.getfield 32, 3) := by decide +kernel
theorem dX8_layChanges_108 : decode cX8_layChanges 108 = .ok (.iload_n 3, 1) := by decide +kernel
theorem dX8_layChanges_109 : decode cX8_layChanges 109 = .ok (.aload_n 0, 1) := by decide +kernel
theorem dX8_layChanges_110 : decode cX8_layChanges 110 = .ok (.getfield 47, 3) := by decide +kernel
theorem dX8_layChanges_113 : decode cX8_layChanges 113 = .ok (.invokevirtual 161, 3) := by decide +kernel
theorem dX8_layChanges_116 : decode cX8_layChanges 116 = .ok (.iinc 2 1, 3) := by decide +kernel
theorem dX8_layChanges_119 : decode cX8_layChanges 119 = .ok (.goto (-117), 3) := by decide +kernel
theorem dX8_layChanges_122 : decode cX8_layChanges 122 = .ok (.return_, 1) := by decide +kernel
theorem dX8_answer_0 : decode cX8_answer 0 = .ok (.iload_n 1, 1) := by decide +kernel
theorem dX8_answer_1 : decode cX8_answer 1 = .ok (.invokestatic 55, 3) := by decide +kernel
theorem dX8_answer_4 : decode cX8_answer 4 = .ok (.ifCond .eq 20, 3) := by decide +kernel
theorem dX8_answer_7 : decode cX8_answer 7 = .ok (.iload_n 2, 1) := by decide +kernel
theorem dX8_answer_8 : decode cX8_answer 8 = .ok (.iload_n 3, 1) := by decide +kernel
theorem dX8_answer_9 : decode cX8_answer 9 = .ok (.invokestatic 199, 3) := by decide +kernel
theorem dX8_answer_12 : decode cX8_answer 12 = .ok (.ifCond .eq 12, 3) := by decide +kernel
theorem dX8_answer_15 : decode cX8_answer 15 = .ok (.aload_n 0, 1) := by decide +kernel
theorem dX8_answer_16 : decode cX8_answer 16 = .ok (.iload 4, 2) := by decide +kernel
theorem dX8_answer_18 : decode cX8_answer 18 = .ok (.invokevirtual 90, 3) := by decide +kernel
theorem dX8_answer_21 : decode cX8_answer 21 = .ok (.ifCond .ne 5, 3) := by decide +kernel
theorem dX8_answer_24 : decode cX8_answer 24 = .ok (.iconst (-1), 1) := by decide +kernel
theorem dX8_answer_25 : decode cX8_answer 25 = .ok (.ireturn, 1) := by decide +kernel
theorem dX8_answer_26 : decode cX8_answer 26 = .ok (.aload_n 0, 1) := by decide +kernel
theorem dX8_answer_27 : decode cX8_answer 27 = .ok (.iload_n 1, 1) := by decide +kernel
theorem dX8_answer_28 : decode cX8_answer 28 = .ok (.iload_n 2, 1) := by decide +kernel
theorem dX8_answer_29 : decode cX8_answer 29 = .ok (.iload_n 3, 1) := by decide +kernel
theorem dX8_answer_30 : decode cX8_answer 30 = .ok (.iload 4, 2) := by decide +kernel
theorem dX8_answer_32 : decode cX8_answer 32 = .ok (.invokevirtual 202, 3) := by decide +kernel
theorem dX8_answer_35 : decode cX8_answer 35 = .ok (.ireturn, 1) := by decide +kernel
theorem dX8_answerFor_0 : decode cX8_answerFor 0 = .ok (.aload_n 0, 1) := by decide +kernel
theorem dX8_answerFor_1 : decode cX8_answerFor 1 = .ok (.getfield 19, 3) := by decide +kernel
theorem dX8_answerFor_4 : decode cX8_answerFor 4 = .ok (.aload_n 0, 1) := by decide +kernel
theorem dX8_answerFor_5 : decode cX8_answerFor 5 = .ok (.getfield 10, 3) := by decide +kernel
theorem dX8_answerFor_8 : decode cX8_answerFor 8 = .ok (.iload_n 1, 1) := by decide +kernel
theorem dX8_answerFor_9 : decode cX8_answerFor 9 = .ok (.iload 4, 2) := by decide +kernel
theorem dX8_answerFor_11 : decode cX8_answerFor 11 = .ok (.invokevirtual 93, 3) := by decide +kernel
theorem dX8_answerFor_14 : decode cX8_answerFor 14 = .ok (.iload_n 2, 1) := by decide +kernel
theorem dX8_answerFor_15 : decode cX8_answerFor 15 = .ok (.iload_n 3, 1) := by decide +kernel
theorem dX8_answerFor_16 : decode cX8_answerFor 16 = .ok (.iload 4, 2) := by decide +kernel
theorem dX8_answerFor_18 : decode cX8_answerFor 18 = .ok (.invokevirtual 205, 3) := by decide +kernel
theorem dX8_answerFor_21 : decode cX8_answerFor 21 = .ok (.ireturn, 1) := by decide +kernel
theorem dX8_viewAnswer_0 : decode cX8_viewAnswer 0 = .ok (.iload_n 1, 1) := by decide +kernel
theorem dX8_viewAnswer_1 : decode cX8_viewAnswer 1 = .ok (.invokestatic 51, 3) := by decide +kernel
theorem dX8_viewAnswer_4 : decode cX8_viewAnswer 4 = .ok (.ifCond .eq 20, 3) := by decide +kernel
theorem dX8_viewAnswer_7 : decode cX8_viewAnswer 7 = .ok (.iload_n 2, 1) := by decide +kernel
theorem dX8_viewAnswer_8 : decode cX8_viewAnswer 8 = .ok (.iload_n 3, 1) := by decide +kernel
theorem dX8_viewAnswer_9 : decode cX8_viewAnswer 9 = .ok (.invokestatic 199, 3) := by decide +kernel
theorem dX8_viewAnswer_12 : decode cX8_viewAnswer 12 = .ok (.ifCond .eq 12, 3) := by decide +kernel
theorem dX8_viewAnswer_15 : decode cX8_viewAnswer 15 = .ok (.aload_n 0, 1) := by decide +kernel
theorem dX8_viewAnswer_16 : decode cX8_viewAnswer 16 = .ok (.iload 4, 2) := by decide +kernel
theorem dX8_viewAnswer_18 : decode cX8_viewAnswer 18 = .ok (.invokevirtual 90, 3) := by decide +kernel
theorem dX8_viewAnswer_21 : decode cX8_viewAnswer 21 = .ok (.ifCond .ne 5, 3) := by decide +kernel
theorem dX8_viewAnswer_24 : decode cX8_viewAnswer 24 = .ok (.iconst (-1), 1) := by decide +kernel
theorem dX8_viewAnswer_25 : decode cX8_viewAnswer 25 = .ok (.ireturn, 1) := by decide +kernel
theorem dX8_viewAnswer_26 : decode cX8_viewAnswer 26 = .ok (.aload_n 0, 1) := by decide +kernel
theorem dX8_viewAnswer_27 : decode cX8_viewAnswer 27 = .ok (.getfield 19, 3) := by decide +kernel
theorem dX8_viewAnswer_30 : decode cX8_viewAnswer 30 = .ok (.iload_n 1, 1) := by decide +kernel
theorem dX8_viewAnswer_31 : decode cX8_viewAnswer 31 = .ok (.iload_n 2, 1) := by decide +kernel
theorem dX8_viewAnswer_32 : decode cX8_viewAnswer 32 = .ok (.iload_n 3, 1) := by decide +kernel
theorem dX8_viewAnswer_33 : decode cX8_viewAnswer 33 = .ok (.iload 4, 2) := by decide +kernel
theorem dX8_viewAnswer_35 : decode cX8_viewAnswer 35 = .ok (.invokevirtual 205, 3) := by decide +kernel
theorem dX8_viewAnswer_38 : decode cX8_viewAnswer 38 = .ok (.ireturn, 1) := by decide +kernel
theorem dX8_zoneFor_0 : decode cX8_zoneFor 0 = .ok (.iload_n 1, 1) := by decide +kernel
theorem dX8_zoneFor_1 : decode cX8_zoneFor 1 = .ok (.invokestatic 51, 3) := by decide +kernel
theorem dX8_zoneFor_4 : decode cX8_zoneFor 4 = .ok (.ifCond .eq 18, 3) := by decide +kernel
theorem dX8_zoneFor_7 : decode cX8_zoneFor 7 = .ok (.iload_n 2, 1) := by decide +kernel
theorem dX8_zoneFor_8 : decode cX8_zoneFor 8 = .ok (.invokestatic 97, 3) := by decide +kernel
theorem dX8_zoneFor_11 : decode cX8_zoneFor 11 = .ok (.ifCond .eq 11, 3) := by decide +kernel
theorem dX8_zoneFor_14 : decode cX8_zoneFor 14 = .ok (.aload_n 0, 1) := by decide +kernel
