theorem dX2_isName_0 : decode cX2_isName 0 = .ok (.iload_n 0, 1) := by decide +kernel
theorem dX2_isName_1 : decode cX2_isName 1 = .ok (.iconst 1, 1) := by decide +kernel
theorem dX2_isName_2 : decode cX2_isName 2 = .ok (.if_icmp .lt 15, 3) := by decide +kernel
theorem dX2_isName_5 : decode cX2_isName 5 = .ok (.iload_n 0, 1) := by decide +kernel
theorem dX2_isName_6 : decode cX2_isName 6 = .ok (.bipush 124, 2) := by decide +kernel
theorem dX2_isName_8 : decode cX2_isName 8 = .ok (.if_icmp .gt 9, 3) := by decide +kernel
theorem dX2_isName_11 : decode cX2_isName 11 = .ok (.iload_n 0, 1) := by decide +kernel
theorem dX2_isName_12 : decode cX2_isName 12 = .ok (.iconst 5, 1) := by decide +kernel
theorem dX2_isName_13 : decode cX2_isName 13 = .ok (.irem, 1) := by decide +kernel
theorem dX2_isName_14 : decode cX2_isName 14 = .ok (.ifCond .ne 5, 3) := by decide +kernel
theorem dX2_isName_17 : decode cX2_isName 17 = .ok (.iconst 0, 1) := by decide +kernel
theorem dX2_isName_18 : decode cX2_isName 18 = .ok (.ireturn, 1) := by decide +kernel
theorem dX2_isName_19 : decode cX2_isName 19 = .ok (.iload_n 0, 1) := by decide +kernel
theorem dX2_isName_20 : decode cX2_isName 20 = .ok (.iconst 5, 1) := by decide +kernel
theorem dX2_isName_21 : decode cX2_isName 21 = .ok (.idiv, 1) := by decide +kernel
theorem dX2_isName_22 : decode cX2_isName 22 = .ok (.iconst 5, 1) := by decide +kernel
theorem dX2_isName_23 : decode cX2_isName 23 = .ok (.irem, 1) := by decide +kernel
theorem dX2_isName_24 : decode cX2_isName 24 = .ok (.ifCond .eq 7, 3) := by decide +kernel
theorem dX2_isName_27 : decode cX2_isName 27 = .ok (.iconst 1, 1) := by decide +kernel
theorem dX2_isName_28 : decode cX2_isName 28 = .ok (.goto 4, 3) := by decide +kernel
theorem dX2_isName_31 : decode cX2_isName 31 = .ok (.iconst 0, 1) := by decide +kernel
theorem dX2_isName_32 : decode cX2_isName 32 = .ok (.istore_n 1, 1) := by decide +kernel
theorem dX2_isName_33 : decode cX2_isName 33 = .ok (.iload_n 0, 1) := by decide +kernel
theorem dX2_isName_34 : decode cX2_isName 34 = .ok (.bipush 25, 2) := by decide +kernel
theorem dX2_isName_36 : decode cX2_isName 36 = .ok (.idiv, 1) := by decide +kernel
theorem dX2_isName_37 : decode cX2_isName 37 = .ok (.ifCond .eq 7, 3) := by decide +kernel
theorem dX2_isName_40 : decode cX2_isName 40 = .ok (.iconst 1, 1) := by decide +kernel
theorem dX2_isName_41 : decode cX2_isName 41 = .ok (.goto 4, 3) := by decide +kernel
theorem dX2_isName_44 : decode cX2_isName 44 = .ok (.iconst 0, 1) := by decide +kernel
theorem dX2_isName_45 : decode cX2_isName 45 = .ok (.istore_n 2, 1) := by decide +kernel
theorem dX2_isName_46 : decode cX2_isName 46 = .ok (.iload_n 1, 1) := by decide +kernel
theorem dX2_isName_47 : decode cX2_isName 47 = .ok (.ifCond .ne 7, 3) := by decide +kernel
theorem dX2_isName_50 : decode cX2_isName 50 = .ok (.iload_n 2, 1) := by decide +kernel
theorem dX2_isName_51 : decode cX2_isName 51 = .ok (.ifCond .ne 7, 3) := by decide +kernel
theorem dX2_isName_54 : decode cX2_isName 54 = .ok (.iconst 1, 1) := by decide +kernel
theorem dX2_isName_55 : decode cX2_isName 55 = .ok (.goto 4, 3) := by decide +kernel
theorem dX2_isName_58 : decode cX2_isName 58 = .ok (.iconst 0, 1) := by decide +kernel
theorem dX2_isName_59 : decode cX2_isName 59 = .ok (.ireturn, 1) := by decide +kernel
theorem dX2_lastWeight_0 : decode cX2_lastWeight 0 = .ok (.iload_n 0, 1) := by decide +kernel
theorem dX2_lastWeight_1 : decode cX2_lastWeight 1 = .ok (.iconst 5, 1) := by decide +kernel
theorem dX2_lastWeight_2 : decode cX2_lastWeight 2 = .ok (.if_icmp .ge 5, 3) := by decide +kernel
theorem dX2_lastWeight_5 : decode cX2_lastWeight 5 = .ok (.iconst 1, 1) := by decide +kernel
theorem dX2_lastWeight_6 : decode cX2_lastWeight 6 = .ok (.ireturn, 1) := by decide +kernel
theorem dX2_lastWeight_7 : decode cX2_lastWeight 7 = .ok (.iload_n 0, 1) := by decide +kernel
theorem dX2_lastWeight_8 : decode cX2_lastWeight 8 = .ok (.bipush 25, 2) := by decide +kernel
theorem dX2_lastWeight_10 : decode cX2_lastWeight 10 = .ok (.if_icmp .ge 7, 3) := by decide +kernel
theorem dX2_lastWeight_13 : decode cX2_lastWeight 13 = .ok (.iconst 5, 1) := by decide +kernel
theorem dX2_lastWeight_14 : decode cX2_lastWeight 14 = .ok (.goto 5, 3) := by decide +kernel
theorem dX2_lastWeight_17 : decode cX2_lastWeight 17 = .ok (.bipush 25, 2) := by decide +kernel
theorem dX2_lastWeight_19 : decode cX2_lastWeight 19 = .ok (.ireturn, 1) := by decide +kernel
theorem dX2_isPattern_0 : decode cX2_isPattern 0 = .ok (.iload_n 0, 1) := by decide +kernel
theorem dX2_isPattern_1 : decode cX2_isPattern 1 = .ok (.iconst 4, 1) := by decide +kernel
theorem dX2_isPattern_2 : decode cX2_isPattern 2 = .ok (.iload_n 0, 1) := by decide +kernel
theorem dX2_isPattern_3 : decode cX2_isPattern 3 = .ok (.invokestatic 9, 3) := by decide +kernel
theorem dX2_isPattern_6 : decode cX2_isPattern 6 = .ok (.imul, 1) := by decide +kernel
theorem dX2_isPattern_7 : decode cX2_isPattern 7 = .ok (.if_icmp .lt 7, 3) := by decide +kernel
theorem dX2_isPattern_10 : decode cX2_isPattern 10 = .ok (.iconst 1, 1) := by decide +kernel
theorem dX2_isPattern_11 : decode cX2_isPattern 11 = .ok (.goto 4, 3) := by decide +kernel
theorem dX2_isPattern_14 : decode cX2_isPattern 14 = .ok (.iconst 0, 1) := by decide +kernel
theorem dX2_isPattern_15 : decode cX2_isPattern 15 = .ok (.ireturn, 1) := by decide +kernel
theorem dX2_patternFor_0 : decode cX2_patternFor 0 = .ok (.iload_n 0, 1) := by decide +kernel
theorem dX2_patternFor_1 : decode cX2_patternFor 1 = .ok (.invokestatic 9, 3) := by decide +kernel
theorem dX2_patternFor_4 : decode cX2_patternFor 4 = .ok (.istore_n 1, 1) := by decide +kernel
theorem dX2_patternFor_5 : decode cX2_patternFor 5 = .ok (.iload_n 0, 1) := by decide +kernel
theorem dX2_patternFor_6 : decode cX2_patternFor 6 = .ok (.iload_n 1, 1) := by decide +kernel
theorem dX2_patternFor_7 : decode cX2_patternFor 7 = .ok (.irem, 1) := by decide +kernel
theorem dX2_patternFor_8 : decode cX2_patternFor 8 = .ok (.iconst 4, 1) := by decide +kernel
theorem dX2_patternFor_9 : decode cX2_patternFor 9 = .ok (.iload_n 1, 1) := by decide +kernel
theorem dX2_patternFor_10 : decode cX2_patternFor 10 = .ok (.imul, 1) := by decide +kernel
theorem dX2_patternFor_11 : decode cX2_patternFor 11 = .ok (.iadd, 1) := by decide +kernel
theorem dX2_patternFor_12 : decode cX2_patternFor 12 = .ok (.ireturn, 1) := by decide +kernel
theorem dX2_isAt_0 : decode cX2_isAt 0 = .ok (.iload_n 1, 1) := by decide +kernel
theorem dX2_isAt_1 : decode cX2_isAt 1 = .ok (.iconst 5, 1) := by decide +kernel
theorem dX2_isAt_2 : decode cX2_isAt 2 = .ok (.if_icmp .ge 16, 3) := by decide +kernel
theorem dX2_isAt_5 : decode cX2_isAt 5 = .ok (.iload_n 0, 1) := by decide +kernel
theorem dX2_isAt_6 : decode cX2_isAt 6 = .ok (.iconst 5, 1) := by decide +kernel
theorem dX2_isAt_7 : decode cX2_isAt 7 = .ok (.irem, 1) := by decide +kernel
theorem dX2_isAt_8 : decode cX2_isAt 8 = .ok (.iload_n 1, 1) := by decide +kernel
theorem dX2_isAt_9 : decode cX2_isAt 9 = .ok (.if_icmp .ne 7, 3) := by decide +kernel
theorem dX2_isAt_12 : decode cX2_isAt 12 = .ok (.iconst 1, 1) := by decide +kernel
theorem dX2_isAt_13 : decode cX2_isAt 13 = .ok (.goto 4, 3) := by decide +kernel
theorem dX2_isAt_16 : decode cX2_isAt 16 = .ok (.iconst 0, 1) := by decide +kernel
theorem dX2_isAt_17 : decode cX2_isAt 17 = .ok (.ireturn, 1) := by decide +kernel
theorem dX2_isAt_18 : decode cX2_isAt 18 = .ok (.iload_n 1, 1) := by decide +kernel
theorem dX2_isAt_19 : decode cX2_isAt 19 = .ok (.bipush 25, 2) := by decide +kernel
theorem dX2_isAt_21 : decode cX2_isAt 21 = .ok (.if_icmp .ge 19, 3) := by decide +kernel
theorem dX2_isAt_24 : decode cX2_isAt 24 = .ok (.iload_n 0, 1) := by decide +kernel
theorem dX2_isAt_25 : decode cX2_isAt 25 = .ok (.bipush 25, 2) := by decide +kernel
theorem dX2_isAt_27 : decode cX2_isAt 27 = .ok (.irem, 1) := by decide +kernel
theorem dX2_isAt_28 : decode cX2_isAt 28 = .ok (.iload_n 1, 1) := by decide +kernel
theorem dX2_isAt_29 : decode cX2_isAt 29 = .ok (.if_icmp .ne 7, 3) := by decide +kernel
theorem dX2_isAt_32 : decode cX2_isAt 32 = .ok (.iconst 1, 1) := by decide +kernel
theorem dX2_isAt_33 : decode cX2_isAt 33 = .ok (.goto 17, 3) := by decide +kernel
theorem dX2_isAt_36 : decode cX2_isAt 36 = .ok (.iconst 0, 1) := by decide +kernel
theorem dX2_isAt_37 : decode cX2_isAt 37 = .ok (.goto 13, 3) := by decide +kernel
theorem dX2_isAt_40 : decode cX2_isAt 40 = .ok (.iload_n 0, 1) := by decide +kernel
theorem dX2_isAt_41 : decode cX2_isAt 41 = .ok (.iload_n 1, 1) := by decide +kernel
theorem dX2_isAt_42 : decode cX2_isAt 42 = .ok (.if_icmp .ne 7, 3) := by decide +kernel
theorem dX2_isAt_45 : decode cX2_isAt 45 = .ok (.iconst 1, 1) := by decide +kernel
theorem dX2_isAt_46 : decode cX2_isAt 46 = .ok (.goto 4, 3) := by decide +kernel
theorem dX2_isAt_49 : decode cX2_isAt 49 = .ok (.iconst 0, 1) := by decide +kernel
theorem dX2_isAt_50 : decode cX2_isAt 50 = .ok (.ireturn, 1) := by decide +kernel
theorem dX2_isBelow_0 : decode cX2_isBelow 0 = .ok (.iload_n 0, 1) := by decide +kernel
theorem dX2_isBelow_1 : decode cX2_isBelow 1 = .ok (.iload_n 1, 1) := by decide +kernel
theorem dX2_isBelow_2 : decode cX2_isBelow 2 = .ok (.if_icmp .eq 15, 3) := by decide +kernel
theorem dX2_isBelow_5 : decode cX2_isBelow 5 = .ok (.iload_n 0, 1) := by decide +kernel
theorem dX2_isBelow_6 : decode cX2_isBelow 6 = .ok (.iload_n 1, 1) := by decide +kernel
theorem dX2_isBelow_7 : decode cX2_isBelow 7 = .ok (.invokestatic 13, 3) := by decide +kernel
theorem dX2_isBelow_10 : decode cX2_isBelow 10 = .ok (.ifCond .eq 7, 3) := by decide +kernel
theorem dX2_isBelow_13 : decode cX2_isBelow 13 = .ok (.iconst 1, 1) := by decide +kernel
theorem dX2_isBelow_14 : decode cX2_isBelow 14 = .ok (.goto 4, 3) := by decide +kernel
theorem dX2_isBelow_17 : decode cX2_isBelow 17 = .ok (.iconst 0, 1) := by decide +kernel
theorem dX2_isBelow_18 : decode cX2_isBelow 18 = .ok (.ireturn, 1) := by decide +kernel
theorem dX2_isLonger_0 : decode cX2_isLonger 0 = .ok (.iload_n 0, 1) := by decide +kernel
theorem dX2_isLonger_1 : decode cX2_isLonger 1 = .ok (.invokestatic 9, 3) := by decide +kernel
theorem dX2_isLonger_4 : decode cX2_isLonger 4 = .ok (.iload_n 1, 1) := by decide +kernel
theorem dX2_isLonger_5 : decode cX2_isLonger 5 = .ok (.invokestatic 9, 3) := by decide +kernel
theorem dX2_isLonger_8 : decode cX2_isLonger 8 = .ok (.if_icmp .le 7, 3) := by decide +kernel
theorem dX2_isLonger_11 : decode cX2_isLonger 11 = .ok (.iconst 1, 1) := by decide +kernel
theorem dX2_isLonger_12 : decode cX2_isLonger 12 = .ok (.goto 4, 3) := by decide +kernel
theorem dX2_isLonger_15 : decode cX2_isLonger 15 = .ok (.iconst 0, 1) := by decide +kernel
theorem dX2_isLonger_16 : decode cX2_isLonger 16 = .ok (.ireturn, 1) := by decide +kernel
