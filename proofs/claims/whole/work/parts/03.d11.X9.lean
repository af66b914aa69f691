theorem dX9_init_0 : decode cX9_init 0 = .ok (.aload_n 0, 1) := by decide +kernel
theorem dX9_init_1 : decode cX9_init 1 = .ok (.invokespecial 1, 3) := by decide +kernel
theorem dX9_init_4 : decode cX9_init 4 = .ok (.aload_n 0, 1) := by decide +kernel
theorem dX9_init_5 : decode cX9_init 5 = .ok (.bipush 50, 2) := by decide +kernel
theorem dX9_init_7 : decode cX9_init 7 = .ok (.newarray .int, 2) := by decide +kernel
theorem dX9_init_9 : decode cX9_init 9 = .ok (.putfield 7, 3) := by decide +kernel
theorem dX9_init_12 : decode cX9_init 12 = .ok (.aload_n 0, 1) := by decide +kernel
theorem dX9_init_13 : decode cX9_init 13 = .ok (.bipush 40, 2) := by decide +kernel
theorem dX9_init_15 : decode cX9_init 15 = .ok (.newarray .int, 2) := by decide +kernel
theorem dX9_init_17 : decode cX9_init 17 = .ok (.putfield 13, 3) := by decide +kernel
theorem dX9_init_20 : decode cX9_init 20 = .ok (.aload_n 0, 1) := by decide +kernel
theorem dX9_init_21 : decode cX9_init 21 = .ok (.sipush 350, 3) := by decide +kernel
theorem dX9_init_24 : decode cX9_init 24 = .ok (.newarray .int, 2) := by decide +kernel
theorem dX9_init_26 : decode cX9_init 26 = .ok (.putfield 16, 3) := by decide +kernel
theorem dX9_init_29 : decode cX9_init 29 = .ok (.aload_n 0, 1) := by decide +kernel
theorem dX9_init_30 : decode cX9_init 30 = .ok (.bipush 30, 2) := by decide +kernel
theorem dX9_init_32 : decode cX9_init 32 = .ok (.newarray .int, 2) := by decide +kernel
theorem dX9_init_34 : decode cX9_init 34 = .ok (.putfield 19, 3) := by decide +kernel
theorem dX9_init_37 : decode cX9_init 37 = .ok (.aload_n 0, 1) := by decide +kernel
theorem dX9_init_38 : decode cX9_init 38 = .ok (.iconst 3, 1) := by decide +kernel
theorem dX9_init_39 : decode cX9_init 39 = .ok (.putfield 22, 3) := by decide +kernel
theorem dX9_init_42 : decode cX9_init 42 = .ok (.aload_n 0, 1) := by decide +kernel
theorem dX9_init_43 : decode cX9_init 43 = .ok (.bipush 60, 2) := by decide +kernel
theorem dX9_init_45 : decode cX9_init 45 = .ok (.newarray .int, 2) := by decide +kernel
theorem dX9_init_47 : decode cX9_init 47 = .ok (.putfield 26, 3) := by decide +kernel
theorem dX9_init_50 : decode cX9_init 50 = .ok (.aload_n 0, 1) := by decide +kernel
theorem dX9_init_51 : decode cX9_init 51 = .ok (.iconst 3, 1) := by decide +kernel
theorem dX9_init_52 : decode cX9_init 52 = .ok (.newarray .int, 2) := by decide +kernel
theorem dX9_init_54 : decode cX9_init 54 = .ok (.putfield 29, 3) := by decide +kernel
theorem dX9_init_57 : decode cX9_init 57 = .ok (.aload_n 0, 1) := by decide +kernel
theorem dX9_init_58 : decode cX9_init 58 = .ok (.iconst 0, 1) := by decide +kernel
theorem dX9_init_59 : decode cX9_init 59 = .ok (.putfield 32, 3) := by decide +kernel
theorem dX9_init_62 : decode cX9_init 62 = .ok (.return_, 1) := by decide +kernel
theorem dX9_in_0 : decode cX9_in 0 = .ok (.iload_n 0, 1) := by decide +kernel
theorem dX9_in_1 : decode cX9_in 1 = .ok (.iload_n 1, 1) := by decide +kernel
theorem dX9_in_2 : decode cX9_in 2 = .ok (.if_icmp .lt 12, 3) := by decide +kernel
theorem dX9_in_5 : decode cX9_in 5 = .ok (.iload_n 0, 1) := by decide +kernel
theorem dX9_in_6 : decode cX9_in 6 = .ok (.iload_n 2, 1) := by decide +kernel
theorem dX9_in_7 : decode cX9_in 7 = .ok (.if_icmp .gt 7, 3) := by decide +kernel
theorem dX9_in_10 : decode cX9_in 10 = .ok (.iconst 1, 1) := by decide +kernel
theorem dX9_in_11 : decode cX9_in 11 = .ok (.goto 4, 3) := by decide +kernel
theorem dX9_in_14 : decode cX9_in 14 = .ok (.iconst 0, 1) := by decide +kernel
theorem dX9_in_15 : decode cX9_in 15 = .ok (.ireturn, 1) := by decide +kernel
theorem dX9_isName_0 : decode cX9_isName 0 = .ok (.iload_n 0, 1) := by decide +kernel
theorem dX9_isName_1 : decode cX9_isName 1 = .ok (.iconst 5, 1) := by decide +kernel
theorem dX9_isName_2 : decode cX9_isName 2 = .ok (.irem, 1) := by decide +kernel
theorem dX9_isName_3 : decode cX9_isName 3 = .ok (.istore_n 1, 1) := by decide +kernel
theorem dX9_isName_4 : decode cX9_isName 4 = .ok (.iload_n 0, 1) := by decide +kernel
theorem dX9_isName_5 : decode cX9_isName 5 = .ok (.iconst 5, 1) := by decide +kernel
theorem dX9_isName_6 : decode cX9_isName 6 = .ok (.idiv, 1) := by decide +kernel
theorem dX9_isName_7 : decode cX9_isName 7 = .ok (.iconst 5, 1) := by decide +kernel
theorem dX9_isName_8 : decode cX9_isName 8 = .ok (.irem, 1) := by decide +kernel
theorem dX9_isName_9 : decode cX9_isName 9 = .ok (.istore_n 2, 1) := by decide +kernel
theorem dX9_isName_10 : decode cX9_isName 10 = .ok (.iload_n 0, 1) := by decide +kernel
theorem dX9_isName_11 : decode cX9_isName 11 = .ok (.bipush 25, 2) := by decide +kernel
theorem dX9_isName_13 : decode cX9_isName 13 = .ok (.idiv, 1) := by decide +kernel
theorem dX9_isName_14 : decode cX9_isName 14 = .ok (.istore_n 3, 1) := by decide +kernel
theorem dX9_isName_15 : decode cX9_isName 15 = .ok (.iload_n 0, 1) := by decide +kernel
theorem dX9_isName_16 : decode cX9_isName 16 = .ok (.iconst 1, 1) := by decide +kernel
theorem dX9_isName_17 : decode cX9_isName 17 = .ok (.bipush 124, 2) := by decide +kernel
theorem dX9_isName_19 : decode cX9_isName 19 = .ok (.invokestatic 35, 3) := by decide +kernel
theorem dX9_isName_22 : decode cX9_isName 22 = .ok (.ifCond .eq 19, 3) := by decide +kernel
theorem dX9_isName_25 : decode cX9_isName 25 = .ok (.iload_n 1, 1) := by decide +kernel
theorem dX9_isName_26 : decode cX9_isName 26 = .ok (.ifCond .le 15, 3) := by decide +kernel
theorem dX9_isName_29 : decode cX9_isName 29 = .ok (.iload_n 2, 1) := by decide +kernel
theorem dX9_isName_30 : decode cX9_isName 30 = .ok (.ifCond .gt 7, 3) := by decide +kernel
theorem dX9_isName_33 : decode cX9_isName 33 = .ok (.iload_n 3, 1) := by decide +kernel
theorem dX9_isName_34 : decode cX9_isName 34 = .ok (.ifCond .ne 7, 3) := by decide +kernel
theorem dX9_isName_37 : decode cX9_isName 37 = .ok (.iconst 1, 1) := by decide +kernel
theorem dX9_isName_38 : decode cX9_isName 38 = .ok (.goto 4, 3) := by decide +kernel
theorem dX9_isName_41 : decode cX9_isName 41 = .ok (.iconst 0, 1) := by decide +kernel
theorem dX9_isName_42 : decode cX9_isName 42 = .ok (.ireturn, 1) := by decide +kernel
theorem dX9_labels_0 : decode cX9_labels 0 = .ok (.iload_n 0, 1) := by decide +kernel
theorem dX9_labels_1 : decode cX9_labels 1 = .ok (.bipush 25, 2) := by decide +kernel
theorem dX9_labels_3 : decode cX9_labels 3 = .ok (.if_icmp .lt 7, 3) := by decide +kernel
theorem dX9_labels_6 : decode cX9_labels 6 = .ok (.iconst 3, 1) := by decide +kernel
theorem dX9_labels_7 : decode cX9_labels 7 = .ok (.goto 13, 3) := by decide +kernel
theorem dX9_labels_10 : decode cX9_labels 10 = .ok (.iload_n 0, 1) := by decide +kernel
theorem dX9_labels_11 : decode cX9_labels 11 = .ok (.iconst 5, 1) := by decide +kernel
theorem dX9_labels_12 : decode cX9_labels 12 = .ok (.if_icmp .lt 7, 3) := by decide +kernel
theorem dX9_labels_15 : decode cX9_labels 15 = .ok (.iconst 2, 1) := by decide +kernel
theorem dX9_labels_16 : decode cX9_labels 16 = .ok (.goto 4, 3) := by decide +kernel
theorem dX9_labels_19 : decode cX9_labels 19 = .ok (.iconst 1, 1) := by decide +kernel
theorem dX9_labels_20 : decode cX9_labels 20 = .ok (.ireturn, 1) := by decide +kernel
theorem dX9_lastLabel_0 : decode cX9_lastLabel 0 = .ok (.iload_n 0, 1) := by decide +kernel
theorem dX9_lastLabel_1 : decode cX9_lastLabel 1 = .ok (.bipush 25, 2) := by decide +kernel
theorem dX9_lastLabel_3 : decode cX9_lastLabel 3 = .ok (.if_icmp .lt 10, 3) := by decide +kernel
theorem dX9_lastLabel_6 : decode cX9_lastLabel 6 = .ok (.iload_n 0, 1) := by decide +kernel
theorem dX9_lastLabel_7 : decode cX9_lastLabel 7 = .ok (.bipush 25, 2) := by decide +kernel
theorem dX9_lastLabel_9 : decode cX9_lastLabel 9 = .ok (.idiv, 1) := by decide +kernel
theorem dX9_lastLabel_10 : decode cX9_lastLabel 10 = .ok (.goto 15, 3) := by decide +kernel
theorem dX9_lastLabel_13 : decode cX9_lastLabel 13 = .ok (.iload_n 0, 1) := by decide +kernel
theorem dX9_lastLabel_14 : decode cX9_lastLabel 14 = .ok (.iconst 5, 1) := by decide +kernel
theorem dX9_lastLabel_15 : decode cX9_lastLabel 15 = .ok (.if_icmp .lt 9, 3) := by decide +kernel
theorem dX9_lastLabel_18 : decode cX9_lastLabel 18 = .ok (.iload_n 0, 1) := by decide +kernel
theorem dX9_lastLabel_19 : decode cX9_lastLabel 19 = .ok (.iconst 5, 1) := by decide +kernel
theorem dX9_lastLabel_20 : decode cX9_lastLabel 20 = .ok (.idiv, 1) := by decide +kernel
theorem dX9_lastLabel_21 : decode cX9_lastLabel 21 = .ok (.goto 4, 3) := by decide +kernel
theorem dX9_lastLabel_24 : decode cX9_lastLabel 24 = .ok (.iload_n 0, 1) := by decide +kernel
theorem dX9_lastLabel_25 : decode cX9_lastLabel 25 = .ok (.ireturn, 1) := by decide +kernel
theorem dX9_isPattern_0 : decode cX9_isPattern 0 = .ok (.iload_n 0, 1) := by decide +kernel
theorem dX9_isPattern_1 : decode cX9_isPattern 1 = .ok (.invokestatic 39, 3) := by decide +kernel
theorem dX9_isPattern_4 : decode cX9_isPattern 4 = .ok (.iconst 4, 1) := by decide +kernel
theorem dX9_isPattern_5 : decode cX9_isPattern 5 = .ok (.if_icmp .ne 7, 3) := by decide +kernel
theorem dX9_isPattern_8 : decode cX9_isPattern 8 = .ok (.iconst 1, 1) := by decide +kernel
theorem dX9_isPattern_9 : decode cX9_isPattern 9 = .ok (.goto 4, 3) := by decide +kernel
theorem dX9_isPattern_12 : decode cX9_isPattern 12 = .ok (.iconst 0, 1) := by decide +kernel
theorem dX9_isPattern_13 : decode cX9_isPattern 13 = .ok (.ireturn, 1) := by decide +kernel
theorem dX9_first_0 : decode cX9_first 0 = .ok (.iload_n 1, 1) := by decide +kernel
theorem dX9_first_1 : decode cX9_first 1 = .ok (.iconst 1, 1) := by decide +kernel
theorem dX9_first_2 : decode cX9_first 2 = .ok (.if_icmp .ne 9, 3) := by decide +kernel
theorem dX9_first_5 : decode cX9_first 5 = .ok (.iload_n 0, 1) := by decide +kernel
theorem dX9_first_6 : decode cX9_first 6 = .ok (.iconst 5, 1) := by decide +kernel
theorem dX9_first_7 : decode cX9_first 7 = .ok (.irem, 1) := by decide +kernel
theorem dX9_first_8 : decode cX9_first 8 = .ok (.goto 16, 3) := by decide +kernel
theorem dX9_first_11 : decode cX9_first 11 = .ok (.iload_n 1, 1) := by decide +kernel
theorem dX9_first_12 : decode cX9_first 12 = .ok (.iconst 2, 1) := by decide +kernel
theorem dX9_first_13 : decode cX9_first 13 = .ok (.if_icmp .ne 10, 3) := by decide +kernel
theorem dX9_first_16 : decode cX9_first 16 = .ok (.iload_n 0, 1) := by decide +kernel
theorem dX9_first_17 : decode cX9_first 17 = .ok (.bipush 25, 2) := by decide +kernel
theorem dX9_first_19 : decode cX9_first 19 = .ok (.irem, 1) := by decide +kernel
theorem dX9_first_20 : decode cX9_first 20 = .ok (.goto 4, 3) := by decide +kernel
theorem dX9_first_23 : decode cX9_first 23 = .ok (.iload_n 0, 1) := by decide +kernel
theorem dX9_first_24 : decode cX9_first 24 = .ok (.ireturn, 1) := by decide +kernel
theorem dX9_isAt_0 : decode cX9_isAt 0 = .ok (.iload_n 0, 1) := by decide +kernel
theorem dX9_isAt_1 : decode cX9_isAt 1 = .ok (.invokestatic 43, 3) := by decide +kernel
theorem dX9_isAt_4 : decode cX9_isAt 4 = .ok (.iload_n 1, 1) := by decide +kernel
theorem dX9_isAt_5 : decode cX9_isAt 5 = .ok (.invokestatic 43, 3) := by decide +kernel
theorem dX9_isAt_8 : decode cX9_isAt 8 = .ok (.if_icmp .lt 19, 3) := by decide +kernel
theorem dX9_isAt_11 : decode cX9_isAt 11 = .ok (.iload_n 0, 1) := by decide +kernel
theorem dX9_isAt_12 : decode cX9_isAt 12 = .ok (.iload_n 1, 1) := by decide +kernel
theorem dX9_isAt_13 : decode cX9_isAt 13 = .ok (.invokestatic 43, 3) := by decide +kernel
theorem dX9_isAt_16 : decode cX9_isAt 16 = .ok (.invokestatic 46, 3) := by decide +kernel
theorem dX9_isAt_19 : decode cX9_isAt 19 = .ok (.iload_n 1, 1) := by decide +kernel
theorem dX9_isAt_20 : decode cX9_isAt 20 = .ok (.if_icmp .ne 7, 3) := by decide +kernel
theorem dX9_isAt_23 : decode cX9_isAt 23 = .ok (.iconst 1, 1) := by decide +kernel
theorem dX9_isAt_24 : decode cX9_isAt 24 = .ok (.goto 4, 3) := by decide +kernel
theorem dX9_isAt_27 : decode cX9_isAt 27 = .ok (.iconst 0, 1) := by decide +kernel
theorem dX9_isAt_28 : decode cX9_isAt 28 = .ok (.ireturn, 1) := by decide +kernel
theorem dX9_isBelow_0 : decode cX9_isBelow 0 = .ok (.iload_n 0, 1) := by decide +kernel
theorem dX9_isBelow_1 : decode cX9_isBelow 1 = .ok (.invokestatic 43, 3) := by decide +kernel
theorem dX9_isBelow_4 : decode cX9_isBelow 4 = .ok (.iload_n 1, 1) := by decide +kernel
theorem dX9_isBelow_5 : decode cX9_isBelow 5 = .ok (.invokestatic 43, 3) := by decide +kernel
theorem dX9_isBelow_8 : decode cX9_isBelow 8 = .ok (.if_icmp .le 15, 3) := by decide +kernel
theorem dX9_isBelow_11 : decode cX9_isBelow 11 = .ok (.iload_n 0, 1) := by decide +kernel
theorem dX9_isBelow_12 : decode cX9_isBelow 12 = .ok (.iload_n 1, 1) := by decide +kernel
theorem dX9_isBelow_13 : decode cX9_isBelow 13 = .ok (.invokestatic 50, 3) := by decide +kernel
theorem dX9_isBelow_16 : decode cX9_isBelow 16 = .ok (.ifCond .eq 7, 3) := by decide +kernel
theorem dX9_isBelow_19 : decode cX9_isBelow 19 = .ok (.iconst 1, 1) := by decide +kernel
theorem dX9_isBelow_20 : decode cX9_isBelow 20 = .ok (.goto 4, 3) := by decide +kernel
theorem dX9_isBelow_23 : decode cX9_isBelow 23 = .ok (.iconst 0, 1) := by decide +kernel
theorem dX9_isBelow_24 : decode cX9_isBelow 24 = .ok (.ireturn, 1) := by decide +kernel
theorem dX9_patternFor_0 : decode cX9_patternFor 0 = .ok (.iload_n 0, 1) := by decide +kernel
theorem dX9_patternFor_1 : decode cX9_patternFor 1 = .ok (.invokestatic 43, 3) := by decide +kernel
theorem dX9_patternFor_4 : decode cX9_patternFor 4 = .ok (.iconst 3, 1) := by decide +kernel
theorem dX9_patternFor_5 : decode cX9_patternFor 5 = .ok (.if_icmp .ne 13, 3) := by decide +kernel
theorem dX9_patternFor_8 : decode cX9_patternFor 8 = .ok (.iload_n 0, 1) := by decide +kernel
theorem dX9_patternFor_9 : decode cX9_patternFor 9 = .ok (.bipush 25, 2) := by decide +kernel
theorem dX9_patternFor_11 : decode cX9_patternFor 11 = .ok (.irem, 1) := by decide +kernel
theorem dX9_patternFor_12 : decode cX9_patternFor 12 = .ok (.bipush 100, 2) := by decide +kernel
theorem dX9_patternFor_14 : decode cX9_patternFor 14 = .ok (.iadd, 1) := by decide +kernel
theorem dX9_patternFor_15 : decode cX9_patternFor 15 = .ok (.goto 21, 3) := by decide +kernel
theorem dX9_patternFor_18 : decode cX9_patternFor 18 = .ok (.iload_n 0, 1) := by decide +kernel
theorem dX9_patternFor_19 : decode cX9_patternFor 19 = .ok (.invokestatic 43, 3) := by decide +kernel
theorem dX9_patternFor_22 : decode cX9_patternFor 22 = .ok (.iconst 2, 1) := by decide +kernel
theorem dX9_patternFor_23 : decode cX9_patternFor 23 = .ok (.if_icmp .ne 12, 3) := by decide +kernel
theorem dX9_patternFor_26 : decode cX9_patternFor 26 = .ok (.iload_n 0, 1) := by decide +kernel
theorem dX9_patternFor_27 : decode cX9_patternFor 27 = .ok (.iconst 5, 1) := by decide +kernel
theorem dX9_patternFor_28 : decode cX9_patternFor 28 = .ok (.irem, 1) := by decide +kernel
theorem dX9_patternFor_29 : decode cX9_patternFor 29 = .ok (.bipush 20, 2) := by decide +kernel
theorem dX9_patternFor_31 : decode cX9_patternFor 31 = .ok (.iadd, 1) := by decide +kernel
theorem dX9_patternFor_32 : decode cX9_patternFor 32 = .ok (.goto 4, 3) := by decide +kernel
theorem dX9_patternFor_35 : decode cX9_patternFor 35 = .ok (.iconst 4, 1) := by decide +kernel
theorem dX9_patternFor_36 : decode cX9_patternFor 36 = .ok (.ireturn, 1) := by decide +kernel
theorem dX9_isTick_0 : decode cX9_isTick 0 = .ok (.iload_n 1, 1) := by decide +kernel
theorem dX9_isTick_1 : decode cX9_isTick 1 = .ok (.iconst 0, 1) := by decide +kernel
theorem dX9_isTick_2 : decode cX9_isTick 2 = .ok (.aload_n 0, 1) := by decide +kernel
theorem dX9_isTick_3 : decode cX9_isTick 3 = .ok (.getfield 32, 3) := by decide +kernel
theorem dX9_isTick_6 : decode cX9_isTick 6 = .ok (.invokestatic 35, 3) := by decide +kernel
theorem dX9_isTick_9 : decode cX9_isTick 9 = .ok (.ireturn, 1) := by decide +kernel
theorem dX9_pass_0 : decode cX9_pass 0 = .ok (.iload_n 1, 1) := by decide +kernel
theorem dX9_pass_1 : decode cX9_pass 1 = .ok (.iconst 1, 1) := by decide +kernel
theorem dX9_pass_2 : decode cX9_pass 2 = .ok (.sipush 1000, 3) := by decide +kernel
theorem dX9_pass_5 : decode cX9_pass 5 = .ok (.invokestatic 35, 3) := by decide +kernel
theorem dX9_pass_8 : decode cX9_pass 8 = .ok (.ifCond .ne 5, 3) := by decide +kernel
theorem dX9_pass_11 : decode cX9_pass 11 = .ok (.iconst (-1), 1) := by decide +kernel
theorem dX9_pass_12 : decode cX9_pass 12 = .ok (.ireturn, 1) := by decide +kernel
theorem dX9_pass_13 : decode cX9_pass 13 = .ok (.aload_n 0, 1) := by decide +kernel
theorem dX9_pass_14 : decode cX9_pass 14 = .ok (.getfield 32, 3) := by decide +kernel
theorem dX9_pass_17 : decode cX9_pass 17 = .ok (.iload_n 1, 1) := by decide +kernel
theorem dX9_pass_18 : decode cX9_pass 18 = .ok (.iadd, 1) := by decide +kernel
theorem dX9_pass_19 : decode cX9_pass 19 = .ok (.sipush 9999, 3) := by decide +kernel
theorem dX9_pass_22 : decode cX9_pass 22 = .ok (.if_icmp .le 6, 3) := by decide +kernel
theorem dX9_pass_25 : decode cX9_pass 25 = .ok (.bipush (-3), 2) := by decide +kernel
theorem dX9_pass_27 : decode cX9_pass 27 = .ok (.ireturn, 1) := by decide +kernel
theorem dX9_pass_28 : decode cX9_pass 28 = .ok (.aload_n 0, 1) := by decide +kernel
theorem dX9_pass_29 : decode cX9_pass 29 = .ok (.dup, 1) := by decide +kernel
theorem dX9_pass_30 : decode cX9_pass 30 = .ok (.getfield 32, 3) := by decide +kernel
theorem dX9_pass_33 : decode cX9_pass 33 = .ok (.iload_n 1, 1) := by decide +kernel
theorem dX9_pass_34 : decode cX9_pass 34 = .ok (.iadd, 1) := by decide +kernel
theorem dX9_pass_35 : decode cX9_pass 35 = .ok (.putfield 32, 3) := by decide +kernel
theorem dX9_pass_38 : decode cX9_pass 38 = .ok (.aload_n 0, 1) := by decide +kernel
theorem dX9_pass_39 : decode cX9_pass 39 = .ok (.getfield 32, 3) := by decide +kernel
theorem dX9_pass_42 : decode cX9_pass 42 = .ok (.ireturn, 1) := by decide +kernel
theorem dX9_time_0 : decode cX9_time 0 = .ok (.aload_n 0, 1) := by decide +kernel
theorem dX9_time_1 : decode cX9_time 1 = .ok (.getfield 32, 3) := by decide +kernel
theorem dX9_time_4 : decode cX9_time 4 = .ok (.ireturn, 1) := by decide +kernel
theorem dX9_isAddress_0 : decode cX9_isAddress 0 = .ok (.iload_n 0, 1) := by decide +kernel
theorem dX9_isAddress_1 : decode cX9_isAddress 1 = .ok (.iconst 0, 1) := by decide +kernel
theorem dX9_isAddress_2 : decode cX9_isAddress 2 = .ok (.sipush 255, 3) := by decide +kernel
theorem dX9_isAddress_5 : decode cX9_isAddress 5 = .ok (.invokestatic 35, 3) := by decide +kernel
theorem dX9_isAddress_8 : decode cX9_isAddress 8 = .ok (.ireturn, 1) := by decide +kernel
theorem dX9_addNet_0 : decode cX9_addNet 0 = .ok (.iload_n 1, 1) := by decide +kernel
theorem dX9_addNet_1 : decode cX9_addNet 1 = .ok (.iconst 1, 1) := by decide +kernel
theorem dX9_addNet_2 : decode cX9_addNet 2 = .ok (.iconst 3, 1) := by decide +kernel
theorem dX9_addNet_3 : decode cX9_addNet 3 = .ok (.invokestatic 35, 3) := by decide +kernel
theorem dX9_addNet_6 : decode cX9_addNet 6 = .ok (.ifCond .eq 20, 3) := by decide +kernel
theorem dX9_addNet_9 : decode cX9_addNet 9 = .ok (.iload_n 2, 1) := by decide +kernel
theorem dX9_addNet_10 : decode cX9_addNet 10 = .ok (.invokestatic 54, 3) := by decide +kernel
theorem dX9_addNet_13 : decode cX9_addNet 13 = .ok (.ifCond .eq 13, 3) := by decide +kernel
theorem dX9_addNet_16 : decode cX9_addNet 16 = .ok (.iload_n 3, 1) := by decide +kernel
theorem dX9_addNet_17 : decode cX9_addNet 17 = .ok (.iconst 1, 1) := by decide +kernel
theorem dX9_addNet_18 : decode cX9_addNet 18 = .ok (.bipush 8, 2) := by decide +kernel
theorem dX9_addNet_20 : decode cX9_addNet 20 = .ok (.invokestatic 35, 3) := by decide +kernel
theorem dX9_addNet_23 : decode cX9_addNet 23 = .ok (.ifCond .ne 5, 3) := by decide +kernel
theorem dX9_addNet_26 : decode cX9_addNet 26 = .ok (.iconst (-1), 1) := by decide +kernel
theorem dX9_addNet_27 : decode cX9_addNet 27 = .ok (.ireturn, 1) := by decide +kernel
theorem dX9_addNet_28 : decode cX9_addNet 28 = .ok (.aload_n 0, 1) := by decide +kernel
theorem dX9_addNet_29 : decode cX9_addNet 29 = .ok (.getfield 58, 3) := by decide +kernel
theorem dX9_addNet_32 : decode cX9_addNet 32 = .ok (.bipush 10, 2) := by decide +kernel
theorem dX9_addNet_34 : decode cX9_addNet 34 = .ok (.if_icmp .ne 6, 3) := by decide +kernel
theorem dX9_addNet_37 : decode cX9_addNet 37 = .ok (.bipush (-3), 2) := by decide +kernel
theorem dX9_addNet_39 : decode cX9_addNet 39 = .ok (.ireturn, 1) := by decide +kernel
theorem dX9_addNet_40 : decode cX9_addNet 40 = .ok (.iconst 5, 1) := by decide +kernel
theorem dX9_addNet_41 : decode cX9_addNet 41 = .ok (.aload_n 0, 1) := by decide +kernel
theorem dX9_addNet_42 : decode cX9_addNet 42 = .ok (.getfield 58, 3) := by decide +kernel
theorem dX9_addNet_45 : decode cX9_addNet 45 = .ok (.imul, 1) := by decide +kernel
theorem dX9_addNet_46 : decode cX9_addNet 46 = .ok (.istore 4, 2) := by decide +kernel
theorem dX9_addNet_48 : decode cX9_addNet 48 = .ok (.aload_n 0, 1) := by decide +kernel
theorem dX9_addNet_49 : decode cX9_addNet 49 = .ok (.getfield 7, 3) := by decide +kernel
theorem dX9_addNet_52 : decode cX9_addNet 52 = .ok (.iload 4, 2) := by decide +kernel
theorem dX9_addNet_54 : decode cX9_addNet 54 = .ok (.iload_n 1, 1) := by decide +kernel
theorem dX9_addNet_55 : decode cX9_addNet 55 = .ok (.iastore, 1) := by decide +kernel
theorem dX9_addNet_56 : decode cX9_addNet 56 = .ok (.aload_n 0, 1) := by decide +kernel
theorem dX9_addNet_57 : decode cX9_addNet 57 = .ok (.getfield 7, 3) := by decide +kernel
theorem dX9_addNet_60 : decode cX9_addNet 60 = .ok (.iload 4, 2) := by decide +kernel
theorem dX9_addNet_62 : decode cX9_addNet 62 = .ok (.iconst 1, 1) := by decide +kernel
theorem dX9_addNet_63 : decode cX9_addNet 63 = .ok (.iadd, 1) := by decide +kernel
theorem dX9_addNet_64 : decode cX9_addNet 64 = .ok (.iload_n 2, 1) := by decide +kernel
theorem dX9_addNet_65 : decode cX9_addNet 65 = .ok (.iastore, 1) := by decide +kernel
theorem dX9_addNet_66 : decode cX9_addNet 66 = .ok (.aload_n 0, 1) := by decide +kernel
theorem dX9_addNet_67 : decode cX9_addNet 67 = .ok (.getfield 7, 3) := by decide +kernel
theorem dX9_addNet_70 : decode cX9_addNet 70 = .ok (.iload 4, 2) := by decide +kernel
theorem dX9_addNet_72 : decode cX9_addNet 72 = .ok (.iconst 2, 1) := by decide +kernel
theorem dX9_addNet_73 : decode cX9_addNet 73 = .ok (.iadd, 1) := by decide +kernel
theorem dX9_addNet_74 : decode cX9_addNet 74 = .ok (.iload_n 3, 1) := by decide +kernel
theorem dX9_addNet_75 : decode cX9_addNet 75 = .ok (.iastore, 1) := by decide +kernel
theorem dX9_addNet_76 : decode cX9_addNet 76 = .ok (.aload_n 0, 1) := by decide +kernel
theorem dX9_addNet_77 : decode cX9_addNet 77 = .ok (.getfield 7, 3) := by decide +kernel
theorem dX9_addNet_80 : decode cX9_addNet 80 = .ok (.iload 4, 2) := by decide +kernel
theorem dX9_addNet_82 : decode cX9_addNet 82 = .ok (.iconst 3, 1) := by decide +kernel
theorem dX9_addNet_83 : decode cX9_addNet 83 = .ok (.iadd, 1) := by decide +kernel
theorem dX9_addNet_84 : decode cX9_addNet 84 = .ok (.aload_n 0, 1) := by decide +kernel
theorem dX9_addNet_85 : decode cX9_addNet 85 = .ok (.getfield 32, 3) := by decide +kernel
theorem dX9_addNet_88 : decode cX9_addNet 88 = .ok (.iastore, 1) := by decide +kernel
theorem dX9_addNet_89 : decode cX9_addNet 89 = .ok (.aload_n 0, 1) := by decide +kernel
theorem dX9_addNet_90 : decode cX9_addNet 90 = .ok (.getfield 7, 3) := by decide +kernel
theorem dX9_addNet_93 : decode cX9_addNet 93 = .ok (.iload 4, 2) := by decide +kernel
theorem dX9_addNet_95 : decode cX9_addNet 95 = .ok (.iconst 4, 1) := by decide +kernel
theorem dX9_addNet_96 : decode cX9_addNet 96 = .ok (.iadd, 1) := by decide +kernel
theorem dX9_addNet_97 : decode cX9_addNet 97 = .ok (.iconst (-1), 1) := by decide +kernel
theorem dX9_addNet_98 : decode cX9_addNet 98 = .ok (.iastore, 1) := by decide +kernel
theorem dX9_addNet_99 : decode cX9_addNet 99 = .ok (.aload_n 0, 1) := by decide +kernel
theorem dX9_addNet_100 : decode cX9_addNet 100 = .ok (.dup, 1) := by decide +kernel
theorem dX9_addNet_101 : decode cX9_addNet 101 = .ok (.getfield 58, 3) := by decide +kernel
theorem dX9_addNet_104 : decode cX9_addNet 104 = .ok (.iconst 1, 1) := by decide +kernel
theorem dX9_addNet_105 : decode cX9_addNet 105 = .ok (.iadd, 1) := by decide +kernel
theorem dX9_addNet_106 : decode cX9_addNet 106 = .ok (.putfield 58, 3) := by decide +kernel
theorem dX9_addNet_109 : decode cX9_addNet 109 = .ok (.aload_n 0, 1) := by decide +kernel
theorem dX9_addNet_110 : decode cX9_addNet 110 = .ok (.getfield 58, 3) := by decide +kernel
theorem dX9_addNet_113 : decode cX9_addNet 113 = .ok (.iconst 1, 1) := by decide +kernel
theorem dX9_addNet_114 : decode cX9_addNet 114 = .ok (.isub, 1) := by decide +kernel
theorem dX9_addNet_115 : decode cX9_addNet 115 = .ok (.ireturn, 1) := by decide +kernel
theorem dX9_isNetThere_0 : decode cX9_isNetThere 0 = .ok (.aload_n 0, 1) := by decide +kernel
theorem dX9_isNetThere_1 : decode cX9_isNetThere 1 = .ok (.getfield 7, 3) := by decide +kernel
theorem dX9_isNetThere_4 : decode cX9_isNetThere 4 = .ok (.iconst 5, 1) := by decide +kernel
theorem dX9_isNetThere_5 : decode cX9_isNetThere 5 = .ok (.iload_n 1, 1) := by decide +kernel
theorem dX9_isNetThere_6 : decode cX9_isNetThere 6 = .ok (.imul, 1) := by decide +kernel
theorem dX9_isNetThere_7 : decode cX9_isNetThere 7 = .ok (.iconst 4, 1) := by decide +kernel
theorem dX9_isNetThere_8 : decode cX9_isNetThere 8 = .ok (.iadd, 1) := by decide +kernel
theorem dX9_isNetThere_9 : decode cX9_isNetThere 9 = .ok (.iaload, 1) := by decide +kernel
theorem dX9_isNetThere_10 : decode cX9_isNetThere 10 = .ok (.istore_n 3, 1) := by decide +kernel
theorem dX9_isNetThere_11 : decode cX9_isNetThere 11 = .ok (.aload_n 0, 1) := by decide +kernel
theorem dX9_isNetThere_12 : decode cX9_isNetThere 12 = .ok (.getfield 7, 3) := by decide +kernel
theorem dX9_isNetThere_15 : decode cX9_isNetThere 15 = .ok (.iconst 5, 1) := by decide +kernel
theorem dX9_isNetThere_16 : decode cX9_isNetThere 16 = .ok (.iload_n 1, 1) := by decide +kernel
theorem dX9_isNetThere_17 : decode cX9_isNetThere 17 = .ok (.imul, 1) := by decide +kernel
theorem dX9_isNetThere_18 : decode cX9_isNetThere 18 = .ok (.iconst 3, 1) := by decide +kernel
theorem dX9_isNetThere_19 : decode cX9_isNetThere 19 = .ok (.iadd, 1) := by decide +kernel
theorem dX9_isNetThere_20 : decode cX9_isNetThere 20 = .ok (.iaload, 1) := by decide +kernel
theorem dX9_isNetThere_21 : decode cX9_isNetThere 21 = .ok (.iload_n 2, 1) := by decide +kernel
theorem dX9_isNetThere_22 : decode cX9_isNetThere 22 = .ok (.if_icmp .gt 16, 3) := by decide +kernel
theorem dX9_isNetThere_25 : decode cX9_isNetThere 25 = .ok (.iload_n 3, 1) := by decide +kernel
theorem dX9_isNetThere_26 : decode cX9_isNetThere 26 = .ok (.ifCond .lt 8, 3) := by decide +kernel
theorem dX9_isNetThere_29 : decode cX9_isNetThere 29 = .ok (.iload_n 2, 1) := by decide +kernel
theorem dX9_isNetThere_30 : decode cX9_isNetThere 30 = .ok (.iload_n 3, 1) := by decide +kernel
theorem dX9_isNetThere_31 : decode cX9_isNetThere 31 = .ok (.if_icmp .ge 7, 3) := by decide +kernel
theorem dX9_isNetThere_34 : decode cX9_isNetThere 34 = .ok (.iconst 1, 1) := by decide +kernel
theorem dX9_isNetThere_35 : decode cX9_isNetThere 35 = .ok (.goto 4, 3) := by decide +kernel
theorem dX9_isNetThere_38 : decode cX9_isNetThere 38 = .ok (.iconst 0, 1) := by decide +kernel
theorem dX9_isNetThere_39 : decode cX9_isNetThere 39 = .ok (.ireturn, 1) := by decide +kernel
theorem dX9_removeNet_0 : decode cX9_removeNet 0 = .ok (.iload_n 1, 1) := by decide +kernel
theorem dX9_removeNet_1 : decode cX9_removeNet 1 = .ok (.iconst 0, 1) := by decide +kernel
theorem dX9_removeNet_2 : decode cX9_removeNet 2 = .ok (.aload_n 0, 1) := by decide +kernel
theorem dX9_removeNet_3 : decode cX9_removeNet 3 = .ok (.getfield 58, 3) := by decide +kernel
theorem dX9_removeNet_6 : decode cX9_removeNet 6 = .ok (.iconst 1, 1) := by decide +kernel
theorem dX9_removeNet_7 : decode cX9_removeNet 7 = .ok (.isub, 1) := by decide +kernel
theorem dX9_removeNet_8 : decode cX9_removeNet 8 = .ok (.invokestatic 35, 3) := by decide +kernel
theorem dX9_removeNet_11 : decode cX9_removeNet 11 = .ok (.ifCond .ne 5, 3) := by decide +kernel
theorem dX9_removeNet_14 : decode cX9_removeNet 14 = .ok (.iconst (-1), 1) := by decide +kernel
theorem dX9_removeNet_15 : decode cX9_removeNet 15 = .ok (.ireturn, 1) := by decide +kernel
theorem dX9_removeNet_16 : decode cX9_removeNet 16 = .ok (.aload_n 0, 1) := by decide +kernel
theorem dX9_removeNet_17 : decode cX9_removeNet 17 = .ok (.getfield 7, 3) := by decide +kernel
theorem dX9_removeNet_20 : decode cX9_removeNet 20 = .ok (.iconst 5, 1) := by decide +kernel
theorem dX9_removeNet_21 : decode cX9_removeNet 21 = .ok (.iload_n 1, 1) := by decide +kernel
theorem dX9_removeNet_22 : decode cX9_removeNet 22 = .ok (.imul, 1) := by decide +kernel
theorem dX9_removeNet_23 : decode cX9_removeNet 23 = .ok (.iconst 4, 1) := by decide +kernel
theorem dX9_removeNet_24 : decode cX9_removeNet 24 = .ok (.iadd, 1) := by decide +kernel
theorem dX9_removeNet_25 : decode cX9_removeNet 25 = .ok (.iaload, 1) := by decide +kernel
theorem dX9_removeNet_26 : decode cX9_removeNet 26 = .ok (.ifCond .lt 6, 3) := by decide +kernel
theorem dX9_removeNet_29 : decode cX9_removeNet 29 = .ok (.bipush (-2), 2) := by decide +kernel
theorem dX9_removeNet_31 : decode cX9_removeNet 31 = .ok (.ireturn, 1) := by decide +kernel
theorem dX9_removeNet_32 : decode cX9_removeNet 32 = .ok (.aload_n 0, 1) := by decide +kernel
theorem dX9_removeNet_33 : decode cX9_removeNet 33 = .ok (.getfield 7, 3) := by decide +kernel
theorem dX9_removeNet_36 : decode cX9_removeNet 36 = .ok (.iconst 5, 1) := by decide +kernel
theorem dX9_removeNet_37 : decode cX9_removeNet 37 = .ok (.iload_n 1, 1) := by decide +kernel
theorem dX9_removeNet_38 : decode cX9_removeNet 38 = .ok (.imul, 1) := by decide +kernel
theorem dX9_removeNet_39 : decode cX9_removeNet 39 = .ok (.iconst 4, 1) := by decide +kernel
theorem dX9_removeNet_40 : decode cX9_removeNet 40 = .ok (.iadd, 1) := by decide +kernel
theorem dX9_removeNet_41 : decode cX9_removeNet 41 = .ok (.aload_n 0, 1) := by decide +kernel
theorem dX9_removeNet_42 : decode cX9_removeNet 42 = .ok (.getfield 32, 3) := by decide +kernel
theorem dX9_removeNet_45 : decode cX9_removeNet 45 = .ok (.iastore, 1) := by decide +kernel
theorem dX9_removeNet_46 : decode cX9_removeNet 46 = .ok (.aload_n 0, 1) := by decide +kernel
theorem dX9_removeNet_47 : decode cX9_removeNet 47 = .ok (.getfield 7, 3) := by decide +kernel
theorem dX9_removeNet_50 : decode cX9_removeNet 50 = .ok (.iconst 5, 1) := by decide +kernel
theorem dX9_removeNet_51 : decode cX9_removeNet 51 = .ok (.iload_n 1, 1) := by decide +kernel
theorem dX9_removeNet_52 : decode cX9_removeNet 52 = .ok (.imul, 1) := by decide +kernel
theorem dX9_removeNet_53 : decode cX9_removeNet 53 = .ok (.iaload, 1) := by decide +kernel
theorem dX9_removeNet_54 : decode cX9_removeNet 54 = .ok (.ireturn, 1) := by decide +kernel
theorem dX9_viewAt_0 : decode cX9_viewAt 0 = .ok (.iconst 0, 1) := by decide +kernel
theorem dX9_viewAt_1 : decode cX9_viewAt 1 = .ok (.istore_n 3, 1) := by decide +kernel
theorem dX9_viewAt_2 : decode cX9_viewAt 2 = .ok (.iconst 0, 1) := by decide +kernel
theorem dX9_viewAt_3 : decode cX9_viewAt 3 = .ok (.istore 4, 2) := by decide +kernel
theorem dX9_viewAt_5 : decode cX9_viewAt 5 = .ok (.iconst 0, 1) := by decide +kernel
theorem dX9_viewAt_6 : decode cX9_viewAt 6 = .ok (.istore 5, 2) := by decide +kernel
theorem dX9_viewAt_8 : decode cX9_viewAt 8 = .ok (.iload 5, 2) := by decide +kernel
theorem dX9_viewAt_10 : decode cX9_viewAt 10 = .ok (.aload_n 0, 1) := by decide +kernel
theorem dX9_viewAt_11 : decode cX9_viewAt 11 = .ok (.getfield 58, 3) := by decide +kernel
theorem dX9_viewAt_14 : decode cX9_viewAt 14 = .ok (.if_icmp .ge 87, 3) := by decide +kernel
theorem dX9_viewAt_17 : decode cX9_viewAt 17 = .ok (.aload_n 0, 1) := by decide +kernel
theorem dX9_viewAt_18 : decode cX9_viewAt 18 = .ok (.getfield 7, 3) := by decide +kernel
theorem dX9_viewAt_21 : decode cX9_viewAt 21 = .ok (.iconst 5, 1) := by decide +kernel
theorem dX9_viewAt_22 : decode cX9_viewAt 22 = .ok (.iload 5, 2) := by decide +kernel
theorem dX9_viewAt_24 : decode cX9_viewAt 24 = .ok (.imul, 1) := by decide +kernel
theorem dX9_viewAt_25 : decode cX9_viewAt 25 = .ok (.iconst 2, 1) := by decide +kernel
theorem dX9_viewAt_26 : decode cX9_viewAt 26 = .ok (.iadd, 1) := by decide +kernel
theorem dX9_viewAt_27 : decode cX9_viewAt 27 = .ok (.iaload, 1) := by decide +kernel
theorem dX9_viewAt_28 : decode cX9_viewAt 28 = .ok (.istore 6, 2) := by decide +kernel
theorem dX9_viewAt_30 : decode cX9_viewAt 30 = .ok (.iload_n 1, 1) := by decide +kernel
theorem dX9_viewAt_31 : decode cX9_viewAt 31 = .ok (.aload_n 0, 1) := by decide +kernel
theorem dX9_viewAt_32 : decode cX9_viewAt 32 = .ok (.getfield 7, 3) := by decide +kernel
theorem dX9_viewAt_35 : decode cX9_viewAt 35 = .ok (.iconst 5, 1) := by decide +kernel
theorem dX9_viewAt_36 : decode cX9_viewAt 36 = .ok (.iload 5, 2) := by decide +kernel
theorem dX9_viewAt_38 : decode cX9_viewAt 38 = .ok (.imul, 1) := by decide +kernel
theorem dX9_viewAt_39 : decode cX9_viewAt 39 = .ok (.iconst 1, 1) := by decide +kernel
theorem dX9_viewAt_40 : decode cX9_viewAt 40 = .ok (.iadd, 1) := by decide +kernel
theorem dX9_viewAt_41 : decode cX9_viewAt 41 = .ok (.iaload, 1) := by decide +kernel
theorem dX9_viewAt_42 : decode cX9_viewAt 42 = .ok (.ixor, 1) := by decide +kernel
theorem dX9_viewAt_43 : decode cX9_viewAt 43 = .ok (.bipush 8, 2) := by decide +kernel
theorem dX9_viewAt_45 : decode cX9_viewAt 45 = .ok (.iload 6, 2) := by decide +kernel
theorem dX9_viewAt_47 : decode cX9_viewAt 47 = .ok (.isub, 1) := by decide +kernel
theorem dX9_viewAt_48 : decode cX9_viewAt 48 = .ok (.ishr, 1) := by decide +kernel
theorem dX9_viewAt_49 : decode cX9_viewAt 49 = .ok (.ifCond .ne 7, 3) := by decide +kernel
theorem dX9_viewAt_52 : decode cX9_viewAt 52 = .ok (.iconst 1, 1) := by decide +kernel
theorem dX9_viewAt_53 : decode cX9_viewAt 53 = .ok (.goto 4, 3) := by decide +kernel
theorem dX9_viewAt_56 : decode cX9_viewAt 56 = .ok (.iconst 0, 1) := by decide +kernel
theorem dX9_viewAt_57 : decode cX9_viewAt 57 = .ok (.istore 7, 2) := by decide +kernel
theorem dX9_viewAt_59 : decode cX9_viewAt 59 = .ok (.iload 7, 2) := by decide +kernel
theorem dX9_viewAt_61 : decode cX9_viewAt 61 = .ok (.ifCond .eq 34, 3) := by decide +kernel
theorem dX9_viewAt_64 : decode cX9_viewAt 64 = .ok (.aload_n 0, 1) := by decide +kernel
theorem dX9_viewAt_65 : decode cX9_viewAt 65 = .ok (.iload 5, 2) := by decide +kernel
theorem dX9_viewAt_67 : decode cX9_viewAt 67 = .ok (.iload_n 2, 1) := by decide +kernel
theorem dX9_viewAt_68 : decode cX9_viewAt 68 = .ok (.invokevirtual 61, 3) := by decide +kernel
theorem dX9_viewAt_71 : decode cX9_viewAt 71 = .ok (.ifCond .eq 24, 3) := by decide +kernel
theorem dX9_viewAt_74 : decode cX9_viewAt 74 = .ok (.iload 6, 2) := by decide +kernel
theorem dX9_viewAt_76 : decode cX9_viewAt 76 = .ok (.iload 4, 2) := by decide +kernel
theorem dX9_viewAt_78 : decode cX9_viewAt 78 = .ok (.if_icmp .le 17, 3) := by decide +kernel
theorem dX9_viewAt_81 : decode cX9_viewAt 81 = .ok (.aload_n 0, 1) := by decide +kernel
theorem dX9_viewAt_82 : decode cX9_viewAt 82 = .ok (.getfield 7, 3) := by decide +kernel
theorem dX9_viewAt_85 : decode cX9_viewAt 85 = .ok (.iconst 5, 1) := by decide +kernel
theorem dX9_viewAt_86 : decode cX9_viewAt 86 = .ok (.iload 5, 2) := by decide +kernel
theorem dX9_viewAt_88 : decode cX9_viewAt 88 = .ok (.imul, 1) := by decide +kernel
theorem dX9_viewAt_89 : decode cX9_viewAt 89 = .ok (.iaload, 1) := by decide +kernel
theorem dX9_viewAt_90 : decode cX9_viewAt 90 = .ok (.istore_n 3, 1) := by decide +kernel
theorem dX9_viewAt_91 : decode cX9_viewAt 91 = .ok (.iload 6, 2) := by decide +kernel
theorem dX9_viewAt_93 : decode cX9_viewAt 93 = .ok (.istore 4, 2) := by decide +kernel
theorem dX9_viewAt_95 : decode cX9_viewAt 95 = .ok (.iinc 5 1, 3) := by decide +kernel
theorem dX9_viewAt_98 : decode cX9_viewAt 98 = .ok (.goto (-90), 3) := by decide +kernel
theorem dX9_viewAt_101 : decode cX9_viewAt 101 = .ok (.iload_n 3, 1) := by decide +kernel
theorem dX9_viewAt_102 : decode cX9_viewAt 102 = .ok (.ireturn, 1) := by decide +kernel
theorem dX9_viewOf_0 : decode cX9_viewOf 0 = .ok (.iload_n 1, 1) := by decide +kernel
theorem dX9_viewOf_1 : decode cX9_viewOf 1 = .ok (.invokestatic 54, 3) := by decide +kernel
theorem dX9_viewOf_4 : decode cX9_viewOf 4 = .ok (.ifCond .eq 20, 3) := by decide +kernel
theorem dX9_viewOf_7 : decode cX9_viewOf 7 = .ok (.aload_n 0, 1) := by decide +kernel
theorem dX9_viewOf_8 : decode cX9_viewOf 8 = .ok (.iload_n 2, 1) := by decide +kernel
theorem dX9_viewOf_9 : decode cX9_viewOf 9 = .ok (.invokevirtual 64, 3) := by decide +kernel
theorem dX9_viewOf_12 : decode cX9_viewOf 12 = .ok (.ifCond .eq 12, 3) := by decide +kernel
theorem dX9_viewOf_15 : decode cX9_viewOf 15 = .ok (.aload_n 0, 1) := by decide +kernel
theorem dX9_viewOf_16 : decode cX9_viewOf 16 = .ok (.iload_n 1, 1) := by decide +kernel
theorem dX9_viewOf_17 : decode cX9_viewOf 17 = .ok (.iload_n 2, 1) := by decide +kernel
theorem dX9_viewOf_18 : decode cX9_viewOf 18 = .ok (.invokevirtual 67, 3) := by decide +kernel
theorem dX9_viewOf_21 : decode cX9_viewOf 21 = .ok (.goto 4, 3) := by decide +kernel
theorem dX9_viewOf_24 : decode cX9_viewOf 24 = .ok (.iconst (-1), 1) := by decide +kernel
theorem dX9_viewOf_25 : decode cX9_viewOf 25 = .ok (.ireturn, 1) := by decide +kernel
theorem dX9_isZone_0 : decode cX9_isZone 0 = .ok (.iload_n 1, 1) := by decide +kernel
theorem dX9_isZone_1 : decode cX9_isZone 1 = .ok (.iconst 0, 1) := by decide +kernel
theorem dX9_isZone_2 : decode cX9_isZone 2 = .ok (.aload_n 0, 1) := by decide +kernel
theorem dX9_isZone_3 : decode cX9_isZone 3 = .ok (.getfield 70, 3) := by decide +kernel
theorem dX9_isZone_6 : decode cX9_isZone 6 = .ok (.iconst 1, 1) := by decide +kernel
theorem dX9_isZone_7 : decode cX9_isZone 7 = .ok (.isub, 1) := by decide +kernel
theorem dX9_isZone_8 : decode cX9_isZone 8 = .ok (.invokestatic 35, 3) := by decide +kernel
theorem dX9_isZone_11 : decode cX9_isZone 11 = .ok (.ireturn, 1) := by decide +kernel
theorem dX9_isThere_0 : decode cX9_isThere 0 = .ok (.aload_n 0, 1) := by decide +kernel
theorem dX9_isThere_1 : decode cX9_isThere 1 = .ok (.getfield 13, 3) := by decide +kernel
theorem dX9_isThere_4 : decode cX9_isThere 4 = .ok (.iconst 4, 1) := by decide +kernel
theorem dX9_isThere_5 : decode cX9_isThere 5 = .ok (.iload_n 1, 1) := by decide +kernel
theorem dX9_isThere_6 : decode cX9_isThere 6 = .ok (.imul, 1) := by decide +kernel
theorem dX9_isThere_7 : decode cX9_isThere 7 = .ok (.iconst 3, 1) := by decide +kernel
theorem dX9_isThere_8 : decode cX9_isThere 8 = .ok (.iadd, 1) := by decide +kernel
theorem dX9_isThere_9 : decode cX9_isThere 9 = .ok (.iaload, 1) := by decide +kernel
theorem dX9_isThere_10 : decode cX9_isThere 10 = .ok (.istore_n 3, 1) := by decide +kernel
theorem dX9_isThere_11 : decode cX9_isThere 11 = .ok (.aload_n 0, 1) := by decide +kernel
theorem dX9_isThere_12 : decode cX9_isThere 12 = .ok (.getfield 13, 3) := by decide +kernel
theorem dX9_isThere_15 : decode cX9_isThere 15 = .ok (.iconst 4, 1) := by decide +kernel
theorem dX9_isThere_16 : decode cX9_isThere 16 = .ok (.iload_n 1, 1) := by decide +kernel
theorem dX9_isThere_17 : decode cX9_isThere 17 = .ok (.imul, 1) := by decide +kernel
theorem dX9_isThere_18 : decode cX9_isThere 18 = .ok (.iconst 2, 1) := by decide +kernel
theorem dX9_isThere_19 : decode cX9_isThere 19 = .ok (.iadd, 1) := by decide +kernel
theorem dX9_isThere_20 : decode cX9_isThere 20 = .ok (.iaload, 1) := by decide +kernel
theorem dX9_isThere_21 : decode cX9_isThere 21 = .ok (.iload_n 2, 1) := by decide +kernel
theorem dX9_isThere_22 : decode cX9_isThere 22 = .ok (.if_icmp .gt 16, 3) := by decide +kernel
theorem dX9_isThere_25 : decode cX9_isThere 25 = .ok (.iload_n 3, 1) := by decide +kernel
theorem dX9_isThere_26 : decode cX9_isThere 26 = .ok (.ifCond .lt 8, 3) := by decide +kernel
theorem dX9_isThere_29 : decode cX9_isThere 29 = .ok (.iload_n 2, 1) := by decide +kernel
theorem dX9_isThere_30 : decode cX9_isThere 30 = .ok (.iload_n 3, 1) := by decide +kernel
theorem dX9_isThere_31 : decode cX9_isThere 31 = .ok (.if_icmp .ge 7, 3) := by decide +kernel
theorem dX9_isThere_34 : decode cX9_isThere 34 = .ok (.iconst 1, 1) := by decide +kernel
theorem dX9_isThere_35 : decode cX9_isThere 35 = .ok (.goto 4, 3) := by decide +kernel
theorem dX9_isThere_38 : decode cX9_isThere 38 = .ok (.iconst 0, 1) := by decide +kernel
theorem dX9_isThere_39 : decode cX9_isThere 39 = .ok (.ireturn, 1) := by decide +kernel
theorem dX9_isGone_0 : decode cX9_isGone 0 = .ok (.aload_n 0, 1) := by decide +kernel
theorem dX9_isGone_1 : decode cX9_isGone 1 = .ok (.getfield 13, 3) := by decide +kernel
theorem dX9_isGone_4 : decode cX9_isGone 4 = .ok (.iconst 4, 1) := by decide +kernel
theorem dX9_isGone_5 : decode cX9_isGone 5 = .ok (.iload_n 1, 1) := by decide +kernel
theorem dX9_isGone_6 : decode cX9_isGone 6 = .ok (.imul, 1) := by decide +kernel
theorem dX9_isGone_7 : decode cX9_isGone 7 = .ok (.iconst 3, 1) := by decide +kernel
theorem dX9_isGone_8 : decode cX9_isGone 8 = .ok (.iadd, 1) := by decide +kernel
theorem dX9_isGone_9 : decode cX9_isGone 9 = .ok (.iaload, 1) := by decide +kernel
theorem dX9_isGone_10 : decode cX9_isGone 10 = .ok (.ifCond .lt 7, 3) := by decide +kernel
theorem dX9_isGone_13 : decode cX9_isGone 13 = .ok (.iconst 1, 1) := by decide +kernel
theorem dX9_isGone_14 : decode cX9_isGone 14 = .ok (.goto 4, 3) := by decide +kernel
theorem dX9_isGone_17 : decode cX9_isGone 17 = .ok (.iconst 0, 1) := by decide +kernel
theorem dX9_isGone_18 : decode cX9_isGone 18 = .ok (.ireturn, 1) := by decide +kernel
theorem dX9_isView_0 : decode cX9_isView 0 = .ok (.iload_n 0, 1) := by decide +kernel
theorem dX9_isView_1 : decode cX9_isView 1 = .ok (.iconst 0, 1) := by decide +kernel
theorem dX9_isView_2 : decode cX9_isView 2 = .ok (.iconst 3, 1) := by decide +kernel
theorem dX9_isView_3 : decode cX9_isView 3 = .ok (.invokestatic 35, 3) := by decide +kernel
theorem dX9_isView_6 : decode cX9_isView 6 = .ok (.ireturn, 1) := by decide +kernel
theorem dX9_addZone_0 : decode cX9_addZone 0 = .ok (.iload_n 1, 1) := by decide +kernel
theorem dX9_addZone_1 : decode cX9_addZone 1 = .ok (.invokestatic 73, 3) := by decide +kernel
theorem dX9_addZone_4 : decode cX9_addZone 4 = .ok (.ifCond .eq 17, 3) := by decide +kernel
theorem dX9_addZone_7 : decode cX9_addZone 7 = .ok (.iload_n 2, 1) := by decide +kernel
theorem dX9_addZone_8 : decode cX9_addZone 8 = .ok (.invokestatic 76, 3) := by decide +kernel
theorem dX9_addZone_11 : decode cX9_addZone 11 = .ok (.ifCond .eq 10, 3) := by decide +kernel
theorem dX9_addZone_14 : decode cX9_addZone 14 = .ok (.iload_n 2, 1) := by decide +kernel
theorem dX9_addZone_15 : decode cX9_addZone 15 = .ok (.invokestatic 79, 3) := by decide +kernel
theorem dX9_addZone_18 : decode cX9_addZone 18 = .ok (.ifCond .eq 5, 3) := by decide +kernel
theorem dX9_addZone_21 : decode cX9_addZone 21 = .ok (.iconst (-1), 1) := by decide +kernel
theorem dX9_addZone_22 : decode cX9_addZone 22 = .ok (.ireturn, 1) := by decide +kernel
theorem dX9_addZone_23 : decode cX9_addZone 23 = .ok (.iconst 0, 1) := by decide +kernel
theorem dX9_addZone_24 : decode cX9_addZone 24 = .ok (.istore_n 3, 1) := by decide +kernel
theorem dX9_addZone_25 : decode cX9_addZone 25 = .ok (.iload_n 3, 1) := by decide +kernel
theorem dX9_addZone_26 : decode cX9_addZone 26 = .ok (.aload_n 0, 1) := by decide +kernel
theorem dX9_addZone_27 : decode cX9_addZone 27 = .ok (.getfield 70, 3) := by decide +kernel
theorem dX9_addZone_30 : decode cX9_addZone 30 = .ok (.if_icmp .ge 46, 3) := by decide +kernel
theorem dX9_addZone_33 : decode cX9_addZone 33 = .ok (.aload_n 0, 1) := by decide +kernel
theorem dX9_addZone_34 : decode cX9_addZone 34 = .ok (.iload_n 3, 1) := by decide +kernel
theorem dX9_addZone_35 : decode cX9_addZone 35 = .ok (.invokevirtual 82, 3) := by decide +kernel
theorem dX9_addZone_38 : decode cX9_addZone 38 = .ok (.ifCond .ne 32, 3) := by decide +kernel
theorem dX9_addZone_41 : decode cX9_addZone 41 = .ok (.aload_n 0, 1) := by decide +kernel
theorem dX9_addZone_42 : decode cX9_addZone 42 = .ok (.getfield 13, 3) := by decide +kernel
theorem dX9_addZone_45 : decode cX9_addZone 45 = .ok (.iconst 4, 1) := by decide +kernel
theorem dX9_addZone_46 : decode cX9_addZone 46 = .ok (.iload_n 3, 1) := by decide +kernel
theorem dX9_addZone_47 : decode cX9_addZone 47 = .ok (.imul, 1) := by decide +kernel
theorem dX9_addZone_48 : decode cX9_addZone 48 = .ok (.iaload, 1) := by decide +kernel
theorem dX9_addZone_49 : decode cX9_addZone 49 = .ok (.iload_n 1, 1) := by decide +kernel
theorem dX9_addZone_50 : decode cX9_addZone 50 = .ok (.if_icmp .ne 20, 3) := by decide +kernel
theorem dX9_addZone_53 : decode cX9_addZone 53 = .ok (.aload_n 0, 1) := by decide +kernel
theorem dX9_addZone_54 : decode cX9_addZone 54 = .ok (.getfield 13, 3) := by decide +kernel
theorem dX9_addZone_57 : decode cX9_addZone 57 = .ok (.iconst 4, 1) := by decide +kernel
theorem dX9_addZone_58 : decode cX9_addZone 58 = .ok (.iload_n 3, 1) := by decide +kernel
theorem dX9_addZone_59 : decode cX9_addZone 59 = .ok (.imul, 1) := by decide +kernel
theorem dX9_addZone_60 : decode cX9_addZone 60 = .ok (.iconst 1, 1) := by decide +kernel
theorem dX9_addZone_61 : decode cX9_addZone 61 = .ok (.iadd, 1) := by decide +kernel
theorem dX9_addZone_62 : decode cX9_addZone 62 = .ok (.iaload, 1) := by decide +kernel
theorem dX9_addZone_63 : decode cX9_addZone 63 = .ok (.iload_n 2, 1) := by decide +kernel
theorem dX9_addZone_64 : decode cX9_addZone 64 = .ok (.if_icmp .ne 6, 3) := by decide +kernel
theorem dX9_addZone_67 : decode cX9_addZone 67 = .ok (.bipush (-2), 2) := by decide +kernel
theorem dX9_addZone_69 : decode cX9_addZone 69 = .ok (.ireturn, 1) := by decide +kernel
theorem dX9_addZone_70 : decode cX9_addZone 70 = .ok (.iinc 3 1, 3) := by decide +kernel
theorem dX9_addZone_73 : decode cX9_addZone 73 = .ok (.goto (-48), 3) := by decide +kernel
theorem dX9_addZone_76 : decode cX9_addZone 76 = .ok (.aload_n 0, 1) := by decide +kernel
theorem dX9_addZone_77 : decode cX9_addZone 77 = .ok (.getfield 70, 3) := by decide +kernel
theorem dX9_addZone_80 : decode cX9_addZone 80 = .ok (.bipush 10, 2) := by decide +kernel
theorem dX9_addZone_82 : decode cX9_addZone 82 = .ok (.if_icmp .ne 6, 3) := by decide +kernel
theorem dX9_addZone_85 : decode cX9_addZone 85 = .ok (.bipush (-3), 2) := by decide +kernel
theorem dX9_addZone_87 : decode cX9_addZone 87 = .ok (.ireturn, 1) := by decide +kernel
theorem dX9_addZone_88 : decode cX9_addZone 88 = .ok (.aload_n 0, 1) := by decide +kernel
theorem dX9_addZone_89 : decode cX9_addZone 89 = .ok (.getfield 13, 3) := by decide +kernel
theorem dX9_addZone_92 : decode cX9_addZone 92 = .ok (.iconst 4, 1) := by decide +kernel
theorem dX9_addZone_93 : decode cX9_addZone 93 = .ok (.aload_n 0, 1) := by decide +kernel
theorem dX9_addZone_94 : decode cX9_addZone 94 = .ok (.getfield 70, 3) := by decide +kernel
theorem dX9_addZone_97 : decode cX9_addZone 97 = .ok (.imul, 1) := by decide +kernel
theorem dX9_addZone_98 : decode cX9_addZone 98 = .ok (.iload_n 1, 1) := by decide +kernel
theorem dX9_addZone_99 : decode cX9_addZone 99 = .ok (.iastore, 1) := by decide +kernel
theorem dX9_addZone_100 : decode cX9_addZone 100 = .ok (.aload_n 0, 1) := by decide +kernel
theorem dX9_addZone_101 : decode cX9_addZone 101 = .ok (.getfield 13, 3) := by decide +kernel
theorem dX9_addZone_104 : decode cX9_addZone 104 = .ok (.iconst 4, 1) := by decide +kernel
theorem dX9_addZone_105 : decode cX9_addZone 105 = .ok (.aload_n 0, 1) := by decide +kernel
theorem dX9_addZone_106 : decode cX9_addZone 106 = .ok (.getfield 70, 3) := by decide +kernel
theorem dX9_addZone_109 : decode cX9_addZone 109 = .ok (.imul, 1) := by decide +kernel
theorem dX9_addZone_110 : decode cX9_addZone 110 = .ok (.iconst 1, 1) := by decide +kernel
theorem dX9_addZone_111 : decode cX9_addZone 111 = .ok (.iadd, 1) := by decide +kernel
theorem dX9_addZone_112 : decode cX9_addZone 112 = .ok (.iload_n 2, 1) := by decide +kernel
theorem dX9_addZone_113 : decode cX9_addZone 113 = .ok (.iastore, 1) := by decide +kernel
theorem dX9_addZone_114 : decode cX9_addZone 114 = .ok (.aload_n 0, 1) := by decide +kernel
theorem dX9_addZone_115 : decode cX9_addZone 115 = .ok (.getfield 13, 3) := by decide +kernel
theorem dX9_addZone_118 : decode cX9_addZone 118 = .ok (.iconst 4, 1) := by decide +kernel
theorem dX9_addZone_119 : decode cX9_addZone 119 = .ok (.aload_n 0, 1) := by decide +kernel
theorem dX9_addZone_120 : decode cX9_addZone 120 = .ok (.getfield 70, 3) := by decide +kernel
theorem dX9_addZone_123 : decode cX9_addZone 123 = .ok (.imul, 1) := by decide +kernel
theorem dX9_addZone_124 : decode cX9_addZone 124 = .ok (.iconst 2, 1) := by decide +kernel
theorem dX9_addZone_125 : decode cX9_addZone 125 = .ok (.iadd, 1) := by decide +kernel
theorem dX9_addZone_126 : decode cX9_addZone 126 = .ok (.aload_n 0, 1) := by decide +kernel
theorem dX9_addZone_127 : decode cX9_addZone 127 = .ok (.getfield 32, 3) := by decide +kernel
theorem dX9_addZone_130 : decode cX9_addZone 130 = .ok (.iastore, 1) := by decide +kernel
theorem dX9_addZone_131 : decode cX9_addZone 131 = .ok (.aload_n 0, 1) := by decide +kernel
theorem dX9_addZone_132 : decode cX9_addZone 132 = .ok (.getfield 13, 3) := by decide +kernel
theorem dX9_addZone_135 : decode cX9_addZone 135 = .ok (.iconst 4, 1) := by decide +kernel
theorem dX9_addZone_136 : decode cX9_addZone 136 = .ok (.aload_n 0, 1) := by decide +kernel
theorem dX9_addZone_137 : decode cX9_addZone 137 = .ok (.getfield 70, 3) := by decide +kernel
theorem dX9_addZone_140 : decode cX9_addZone 140 = .ok (.imul, 1) := by decide +kernel
theorem dX9_addZone_141 : decode cX9_addZone 141 = .ok (.iconst 3, 1) := by decide +kernel
theorem dX9_addZone_142 : decode cX9_addZone 142 = .ok (.iadd, 1) := by decide +kernel
theorem dX9_addZone_143 : decode cX9_addZone 143 = .ok (.iconst (-1), 1) := by decide +kernel
theorem dX9_addZone_144 : decode cX9_addZone 144 = .ok (.iastore, 1) := by decide +kernel
theorem dX9_addZone_145 : decode cX9_addZone 145 = .ok (.aload_n 0, 1) := by decide +kernel
theorem dX9_addZone_146 : decode cX9_addZone 146 = .ok (.dup, 1) := by decide +kernel
theorem dX9_addZone_147 : decode cX9_addZone 147 = .ok (.getfield 70, 3) := by decide +kernel
theorem dX9_addZone_150 : decode cX9_addZone 150 = .ok (.iconst 1, 1) := by decide +kernel
theorem dX9_addZone_151 : decode cX9_addZone 151 = .ok (.iadd, 1) := by decide +kernel
theorem dX9_addZone_152 : decode cX9_addZone 152 = .ok (.putfield 70, 3) := by decide +kernel
theorem dX9_addZone_155 : decode cX9_addZone 155 = .ok (.aload_n 0, 1) := by decide +kernel
theorem dX9_addZone_156 : decode cX9_addZone 156 = .ok (.getfield 70, 3) := by decide +kernel
theorem dX9_addZone_159 : decode cX9_addZone 159 = .ok (.iconst 1, 1) := by decide +kernel
theorem dX9_addZone_160 : decode cX9_addZone 160 = .ok (.isub, 1) := by decide +kernel
theorem dX9_addZone_161 : decode cX9_addZone 161 = .ok (.ireturn, 1) := by decide +kernel
theorem dX9_removeZone_0 : decode cX9_removeZone 0 = .ok (.aload_n 0, 1) := by decide +kernel
theorem dX9_removeZone_1 : decode cX9_removeZone 1 = .ok (.iload_n 1, 1) := by decide +kernel
theorem dX9_removeZone_2 : decode cX9_removeZone 2 = .ok (.invokevirtual 85, 3) := by decide +kernel
theorem dX9_removeZone_5 : decode cX9_removeZone 5 = .ok (.ifCond .ne 5, 3) := by decide +kernel
theorem dX9_removeZone_8 : decode cX9_removeZone 8 = .ok (.iconst (-1), 1) := by decide +kernel
theorem dX9_removeZone_9 : decode cX9_removeZone 9 = .ok (.ireturn, 1) := by decide +kernel
theorem dX9_removeZone_10 : decode cX9_removeZone 10 = .ok (.aload_n 0, 1) := by decide +kernel
theorem dX9_removeZone_11 : decode cX9_removeZone 11 = .ok (.iload_n 1, 1) := by decide +kernel
theorem dX9_removeZone_12 : decode cX9_removeZone 12 = .ok (.invokevirtual 82, 3) := by decide +kernel
theorem dX9_removeZone_15 : decode cX9_removeZone 15 = .ok (.ifCond .eq 6, 3) := by decide +kernel
theorem dX9_removeZone_18 : decode cX9_removeZone 18 = .ok (.bipush (-2), 2) := by decide +kernel
theorem dX9_removeZone_20 : decode cX9_removeZone 20 = .ok (.ireturn, 1) := by decide +kernel
theorem dX9_removeZone_21 : decode cX9_removeZone 21 = .ok (.aload_n 0, 1) := by decide +kernel
theorem dX9_removeZone_22 : decode cX9_removeZone 22 = .ok (.iload_n 1, 1) := by decide +kernel
theorem dX9_removeZone_23 : decode cX9_removeZone 23 = .ok (.invokevirtual 88, 3) := by decide +kernel
theorem dX9_removeZone_26 : decode cX9_removeZone 26 = .ok (.istore_n 2, 1) := by decide +kernel
theorem dX9_removeZone_27 : decode cX9_removeZone 27 = .ok (.aload_n 0, 1) := by decide +kernel
theorem dX9_removeZone_28 : decode cX9_removeZone 28 = .ok (.getfield 13, 3) := by decide +kernel
theorem dX9_removeZone_31 : decode cX9_removeZone 31 = .ok (.iconst 4, 1) := by decide +kernel
theorem dX9_removeZone_32 : decode cX9_removeZone 32 = .ok (.iload_n 1, 1) := by decide +kernel
theorem dX9_removeZone_33 : decode cX9_removeZone 33 = .ok (.imul, 1) := by decide +kernel
theorem dX9_removeZone_34 : decode cX9_removeZone 34 = .ok (.iconst 3, 1) := by decide +kernel
theorem dX9_removeZone_35 : decode cX9_removeZone 35 = .ok (.iadd, 1) := by decide +kernel
theorem dX9_removeZone_36 : decode cX9_removeZone 36 = .ok (.aload_n 0, 1) := by decide +kernel
theorem dX9_removeZone_37 : decode cX9_removeZone 37 = .ok (.getfield 32, 3) := by decide +kernel
theorem dX9_removeZone_40 : decode cX9_removeZone 40 = .ok (.iastore, 1) := by decide +kernel
theorem dX9_removeZone_41 : decode cX9_removeZone 41 = .ok (.iload_n 2, 1) := by decide +kernel
theorem dX9_removeZone_42 : decode cX9_removeZone 42 = .ok (.ireturn, 1) := by decide +kernel
theorem dX9_zoneInfo_0 : decode cX9_zoneInfo 0 = .ok (.aload_n 0, 1) := by decide +kernel
theorem dX9_zoneInfo_1 : decode cX9_zoneInfo 1 = .ok (.iload_n 1, 1) := by decide +kernel
theorem dX9_zoneInfo_2 : decode cX9_zoneInfo 2 = .ok (.invokevirtual 85, 3) := by decide +kernel
theorem dX9_zoneInfo_5 : decode cX9_zoneInfo 5 = .ok (.ifCond .eq 12, 3) := by decide +kernel
theorem dX9_zoneInfo_8 : decode cX9_zoneInfo 8 = .ok (.iload_n 2, 1) := by decide +kernel
theorem dX9_zoneInfo_9 : decode cX9_zoneInfo 9 = .ok (.iconst 0, 1) := by decide +kernel
theorem dX9_zoneInfo_10 : decode cX9_zoneInfo 10 = .ok (.iconst 3, 1) := by decide +kernel
theorem dX9_zoneInfo_11 : decode cX9_zoneInfo 11 = .ok (.invokestatic 35, 3) := by decide +kernel
theorem dX9_zoneInfo_14 : decode cX9_zoneInfo 14 = .ok (.ifCond .ne 5, 3) := by decide +kernel
theorem dX9_zoneInfo_17 : decode cX9_zoneInfo 17 = .ok (.iconst (-1), 1) := by decide +kernel
theorem dX9_zoneInfo_18 : decode cX9_zoneInfo 18 = .ok (.ireturn, 1) := by decide +kernel
theorem dX9_zoneInfo_19 : decode cX9_zoneInfo 19 = .ok (.iload_n 2, 1) := by decide +kernel
theorem dX9_zoneInfo_20 : decode cX9_zoneInfo 20 = .ok (.iconst 3, 1) := by decide +kernel
theorem dX9_zoneInfo_21 : decode cX9_zoneInfo 21 = .ok (.if_icmp .ne 16, 3) := by decide +kernel
theorem dX9_zoneInfo_24 : decode cX9_zoneInfo 24 = .ok (.aload_n 0, 1) := by decide +kernel
theorem dX9_zoneInfo_25 : decode cX9_zoneInfo 25 = .ok (.iload_n 1, 1) := by decide +kernel
theorem dX9_zoneInfo_26 : decode cX9_zoneInfo 26 = .ok (.invokevirtual 82, 3) := by decide +kernel
theorem dX9_zoneInfo_29 : decode cX9_zoneInfo 29 = .ok (.ifCond .ne 8, 3) := by decide +kernel
theorem dX9_zoneInfo_32 : decode cX9_zoneInfo 32 = .ok (.bipush (-4), 2) := by decide +kernel
theorem dX9_zoneInfo_34 : decode cX9_zoneInfo 34 = .ok (.goto 13, 3) := by decide +kernel
theorem dX9_zoneInfo_37 : decode cX9_zoneInfo 37 = .ok (.aload_n 0, 1) := by decide +kernel
theorem dX9_zoneInfo_38 : decode cX9_zoneInfo 38 = .ok (.getfield 13, 3) := by decide +kernel
theorem dX9_zoneInfo_41 : decode cX9_zoneInfo 41 = .ok (.iconst 4, 1) := by decide +kernel
theorem dX9_zoneInfo_42 : decode cX9_zoneInfo 42 = .ok (.iload_n 1, 1) := by decide +kernel
theorem dX9_zoneInfo_43 : decode cX9_zoneInfo 43 = .ok (.imul, 1) := by decide +kernel
theorem dX9_zoneInfo_44 : decode cX9_zoneInfo 44 = .ok (.iload_n 2, 1) := by decide +kernel
theorem dX9_zoneInfo_45 : decode cX9_zoneInfo 45 = .ok (.iadd, 1) := by decide +kernel
theorem dX9_zoneInfo_46 : decode cX9_zoneInfo 46 = .ok (.iaload, 1) := by decide +kernel
theorem dX9_zoneInfo_47 : decode cX9_zoneInfo 47 = .ok (.ireturn, 1) := by decide +kernel
theorem dX9_count_0 : decode cX9_count 0 = .ok (.iconst 0, 1) := by decide +kernel
theorem dX9_count_1 : decode cX9_count 1 = .ok (.istore_n 2, 1) := by decide +kernel
theorem dX9_count_2 : decode cX9_count 2 = .ok (.iload_n 1, 1) := by decide +kernel
theorem dX9_count_3 : decode cX9_count 3 = .ok (.tableswitch 163 0 5 #[37, 76, 110, 148, 153, 158], 37) := by decide +kernel
theorem dX9_count_40 : decode cX9_count 40 = .ok (.iconst 0, 1) := by decide +kernel
theorem dX9_count_41 : decode cX9_count 41 = .ok (.istore_n 3, 1) := by decide +kernel
theorem dX9_count_42 : decode cX9_count 42 = .ok (.iload_n 3, 1) := by decide +kernel
theorem dX9_count_43 : decode cX9_count 43 = .ok (.aload_n 0, 1) := by decide +kernel
theorem dX9_count_44 : decode cX9_count 44 = .ok (.getfield 58, 3) := by decide +kernel
theorem dX9_count_47 : decode cX9_count 47 = .ok (.if_icmp .ge 30, 3) := by decide +kernel
theorem dX9_count_50 : decode cX9_count 50 = .ok (.iload_n 2, 1) := by decide +kernel
theorem dX9_count_51 : decode cX9_count 51 = .ok (.aload_n 0, 1) := by decide +kernel
theorem dX9_count_52 : decode cX9_count 52 = .ok (.getfield 7, 3) := by decide +kernel
theorem dX9_count_55 : decode cX9_count 55 = .ok (.iconst 5, 1) := by decide +kernel
theorem dX9_count_56 : decode cX9_count 56 = .ok (.iload_n 3, 1) := by decide +kernel
theorem dX9_count_57 : decode cX9_count 57 = .ok (.imul, 1) := by decide +kernel
theorem dX9_count_58 : decode cX9_count 58 = .ok (.iconst 4, 1) := by decide +kernel
theorem dX9_count_59 : decode cX9_count 59 = .ok (.iadd, 1) := by decide +kernel
theorem dX9_count_60 : decode cX9_count 60 = .ok (.iaload, 1) := by decide +kernel
theorem dX9_count_61 : decode cX9_count 61 = .ok (.ifCond .ge 7, 3) := by decide +kernel
theorem dX9_count_64 : decode cX9_count 64 = .ok (.iconst 1, 1) := by decide +kernel
theorem dX9_count_65 : decode cX9_count 65 = .ok (.goto 4, 3) := by decide +kernel
theorem dX9_count_68 : decode cX9_count 68 = .ok (.iconst 0, 1) := by decide +kernel
theorem dX9_count_69 : decode cX9_count 69 = .ok (.iadd, 1) := by decide +kernel
theorem dX9_count_70 : decode cX9_count 70 = .ok (.istore_n 2, 1) := by decide +kernel
theorem dX9_count_71 : decode cX9_count 71 = .ok (.iinc 3 1, 3) := by decide +kernel
theorem dX9_count_74 : decode cX9_count 74 = .ok (.goto (-32), 3) := by decide +kernel
theorem dX9_count_77 : decode cX9_count 77 = .ok (.iload_n 2, 1) := by decide +kernel
theorem dX9_count_78 : decode cX9_count 78 = .ok (.ireturn, 1) := by decide +kernel
theorem dX9_count_79 : decode cX9_count 79 = .ok (.iconst 0, 1) := by decide +kernel
theorem dX9_count_80 : decode cX9_count 80 = .ok (.istore_n 3, 1) := by decide +kernel
theorem dX9_count_81 : decode cX9_count 81 = .ok (.iload_n 3, 1) := by decide +kernel
theorem dX9_count_82 : decode cX9_count 82 = .ok (.aload_n 0, 1) := by decide +kernel
theorem dX9_count_83 : decode cX9_count 83 = .ok (.getfield 70, 3) := by decide +kernel
theorem dX9_count_86 : decode cX9_count 86 = .ok (.if_icmp .ge 25, 3) := by decide +kernel
theorem dX9_count_89 : decode cX9_count 89 = .ok (.iload_n 2, 1) := by decide +kernel
theorem dX9_count_90 : decode cX9_count 90 = .ok (.aload_n 0, 1) := by decide +kernel
theorem dX9_count_91 : decode cX9_count 91 = .ok (.iload_n 3, 1) := by decide +kernel
theorem dX9_count_92 : decode cX9_count 92 = .ok (.invokevirtual 82, 3) := by decide +kernel
theorem dX9_count_95 : decode cX9_count 95 = .ok (.ifCond .eq 7, 3) := by decide +kernel
theorem dX9_count_98 : decode cX9_count 98 = .ok (.iconst 0, 1) := by decide +kernel
theorem dX9_count_99 : decode cX9_count 99 = .ok (.goto 4, 3) := by decide +kernel
theorem dX9_count_102 : decode cX9_count 102 = .ok (.iconst 1, 1) := by decide +kernel
theorem dX9_count_103 : decode cX9_count 103 = .ok (.iadd, 1) := by decide +kernel
theorem dX9_count_104 : decode cX9_count 104 = .ok (.istore_n 2, 1) := by decide +kernel
theorem dX9_count_105 : decode cX9_count 105 = .ok (.iinc 3 1, 3) := by decide +kernel
theorem dX9_count_108 : decode cX9_count 108 = .ok (.goto (-27), 3) := by decide +kernel
theorem dX9_count_111 : decode cX9_count 111 = .ok (.iload_n 2, 1) := by decide +kernel
theorem dX9_count_112 : decode cX9_count 112 = .ok (.ireturn, 1) := by decide +kernel
theorem dX9_count_113 : decode cX9_count 113 = .ok (.iconst 0, 1) := by decide +kernel
theorem dX9_count_114 : decode cX9_count 114 = .ok (.istore_n 3, 1) := by decide +kernel
theorem dX9_count_115 : decode cX9_count 115 = .ok (.iload_n 3, 1) := by decide +kernel
theorem dX9_count_116 : decode cX9_count 116 = .ok (.aload_n 0, 1) := by decide +kernel
theorem dX9_count_117 : decode cX9_count 117 = .ok (.getfield 70, 3) := by decide +kernel
theorem dX9_count_120 : decode cX9_count 120 = .ok (.if_icmp .ge 29, 3) := by decide +kernel
theorem dX9_count_123 : decode cX9_count 123 = .ok (.iload_n 2, 1) := by decide +kernel
theorem dX9_count_124 : decode cX9_count 124 = .ok (.aload_n 0, 1) := by decide +kernel
theorem dX9_count_125 : decode cX9_count 125 = .ok (.iload_n 3, 1) := by decide +kernel
theorem dX9_count_126 : decode cX9_count 126 = .ok (.invokevirtual 82, 3) := by decide +kernel
theorem dX9_count_129 : decode cX9_count 129 = .ok (.ifCond .eq 7, 3) := by decide +kernel
theorem dX9_count_132 : decode cX9_count 132 = .ok (.iconst 0, 1) := by decide +kernel
theorem dX9_count_133 : decode cX9_count 133 = .ok (.goto 8, 3) := by decide +kernel
theorem dX9_count_136 : decode cX9_count 136 = .ok (.aload_n 0, 1) := by decide +kernel
theorem dX9_count_137 : decode cX9_count 137 = .ok (.iload_n 3, 1) := by decide +kernel
theorem dX9_count_138 : decode cX9_count 138 = .ok (.invokevirtual 88, 3) := by decide +kernel
theorem dX9_count_141 : decode cX9_count 141 = .ok (.iadd, 1) := by decide +kernel
