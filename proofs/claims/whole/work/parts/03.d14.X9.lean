theorem dX9_isDigits_15 : decode cX9_isDigits 15 = .ok (.isub, 1) := by decide +kernel
theorem dX9_isDigits_16 : decode cX9_isDigits 16 = .ok (.iconst 3, 1) := by decide +kernel
theorem dX9_isDigits_17 : decode cX9_isDigits 17 = .ok (.if_icmp .ge 51, 3) := by decide +kernel
theorem dX9_isDigits_20 : decode cX9_isDigits 20 = .ok (.aload_n 0, 1) := by decide +kernel
theorem dX9_isDigits_21 : decode cX9_isDigits 21 = .ok (.bipush 48, 2) := by decide +kernel
theorem dX9_isDigits_23 : decode cX9_isDigits 23 = .ok (.bipush 57, 2) := by decide +kernel
theorem dX9_isDigits_25 : decode cX9_isDigits 25 = .ok (.invokevirtual 168, 3) := by decide +kernel
theorem dX9_isDigits_28 : decode cX9_isDigits 28 = .ok (.ifCond .eq 40, 3) := by decide +kernel
theorem dX9_isDigits_31 : decode cX9_isDigits 31 = .ok (.aload_n 0, 1) := by decide +kernel
theorem dX9_isDigits_32 : decode cX9_isDigits 32 = .ok (.bipush 10, 2) := by decide +kernel
theorem dX9_isDigits_34 : decode cX9_isDigits 34 = .ok (.aload_n 0, 1) := by decide +kernel
theorem dX9_isDigits_35 : decode cX9_isDigits 35 = .ok (.getfield 165, 3) := by decide +kernel
theorem dX9_isDigits_38 : decode cX9_isDigits 38 = .ok (.imul, 1) := by decide +kernel
theorem dX9_isDigits_39 : decode cX9_isDigits 39 = .ok (.aload_n 0, 1) := by decide +kernel
theorem dX9_isDigits_40 : decode cX9_isDigits 40 = .ok (.getfield 26, 3) := by decide +kernel
theorem dX9_isDigits_43 : decode cX9_isDigits 43 = .ok (.aload_n 0, 1) := by decide +kernel
theorem dX9_isDigits_44 : decode cX9_isDigits 44 = .ok (.getfield 162, 3) := by decide +kernel
theorem dX9_isDigits_47 : decode cX9_isDigits 47 = .ok (.iaload, 1) := by decide +kernel
theorem dX9_isDigits_48 : decode cX9_isDigits 48 = .ok (.iadd, 1) := by decide +kernel
theorem dX9_isDigits_49 : decode cX9_isDigits 49 = .ok (.bipush 48, 2) := by decide +kernel
theorem dX9_isDigits_51 : decode cX9_isDigits 51 = .ok (.isub, 1) := by decide +kernel
theorem dX9_isDigits_52 : decode cX9_isDigits 52 = .ok (.putfield 165, 3) := by decide +kernel
theorem dX9_isDigits_55 : decode cX9_isDigits 55 = .ok (.aload_n 0, 1) := by decide +kernel
theorem dX9_isDigits_56 : decode cX9_isDigits 56 = .ok (.dup, 1) := by decide +kernel
theorem dX9_isDigits_57 : decode cX9_isDigits 57 = .ok (.getfield 162, 3) := by decide +kernel
theorem dX9_isDigits_60 : decode cX9_isDigits 60 = .ok (.iconst 1, 1) := by decide +kernel
theorem dX9_isDigits_61 : decode cX9_isDigits 61 = .ok (.iadd, 1) := by decide +kernel
theorem dX9_isDigits_62 : decode cX9_isDigits 62 = .ok (.putfield 162, 3) := by decide +kernel
theorem dX9_isDigits_65 : decode cX9_isDigits 65 = .ok (.goto (-55), 3) := by decide +kernel
theorem dX9_isDigits_68 : decode cX9_isDigits 68 = .ok (.aload_n 0, 1) := by decide +kernel
theorem dX9_isDigits_69 : decode cX9_isDigits 69 = .ok (.getfield 162, 3) := by decide +kernel
theorem dX9_isDigits_72 : decode cX9_isDigits 72 = .ok (.iload_n 1, 1) := by decide +kernel
theorem dX9_isDigits_73 : decode cX9_isDigits 73 = .ok (.if_icmp .le 7, 3) := by decide +kernel
theorem dX9_isDigits_76 : decode cX9_isDigits 76 = .ok (.iconst 1, 1) := by decide +kernel
theorem dX9_isDigits_77 : decode cX9_isDigits 77 = .ok (.goto 4, 3) := by decide +kernel
theorem dX9_isDigits_80 : decode cX9_isDigits 80 = .ok (.iconst 0, 1) := by decide +kernel
theorem dX9_isDigits_81 : decode cX9_isDigits 81 = .ok (.ireturn, 1) := by decide +kernel
theorem dX9_takes_0 : decode cX9_takes 0 = .ok (.aload_n 0, 1) := by decide +kernel
theorem dX9_takes_1 : decode cX9_takes 1 = .ok (.iload_n 1, 1) := by decide +kernel
theorem dX9_takes_2 : decode cX9_takes 2 = .ok (.iload_n 1, 1) := by decide +kernel
theorem dX9_takes_3 : decode cX9_takes 3 = .ok (.invokevirtual 168, 3) := by decide +kernel
theorem dX9_takes_6 : decode cX9_takes 6 = .ok (.istore_n 2, 1) := by decide +kernel
theorem dX9_takes_7 : decode cX9_takes 7 = .ok (.aload_n 0, 1) := by decide +kernel
theorem dX9_takes_8 : decode cX9_takes 8 = .ok (.dup, 1) := by decide +kernel
theorem dX9_takes_9 : decode cX9_takes 9 = .ok (.getfield 162, 3) := by decide +kernel
theorem dX9_takes_12 : decode cX9_takes 12 = .ok (.iload_n 2, 1) := by decide +kernel
theorem dX9_takes_13 : decode cX9_takes 13 = .ok (.ifCond .eq 7, 3) := by decide +kernel
theorem dX9_takes_16 : decode cX9_takes 16 = .ok (.iconst 1, 1) := by decide +kernel
theorem dX9_takes_17 : decode cX9_takes 17 = .ok (.goto 4, 3) := by decide +kernel
theorem dX9_takes_20 : decode cX9_takes 20 = .ok (.iconst 0, 1) := by decide +kernel
theorem dX9_takes_21 : decode cX9_takes 21 = .ok (.iadd, 1) := by decide +kernel
theorem dX9_takes_22 : decode cX9_takes 22 = .ok (.putfield 162, 3) := by decide +kernel
theorem dX9_takes_25 : decode cX9_takes 25 = .ok (.iload_n 2, 1) := by decide +kernel
theorem dX9_takes_26 : decode cX9_takes 26 = .ok (.ireturn, 1) := by decide +kernel
theorem dX9_isChange_0 : decode cX9_isChange 0 = .ok (.aload_n 0, 1) := by decide +kernel
theorem dX9_isChange_1 : decode cX9_isChange 1 = .ok (.invokevirtual 171, 3) := by decide +kernel
theorem dX9_isChange_4 : decode cX9_isChange 4 = .ok (.ifCond .ne 5, 3) := by decide +kernel
theorem dX9_isChange_7 : decode cX9_isChange 7 = .ok (.iconst 0, 1) := by decide +kernel
theorem dX9_isChange_8 : decode cX9_isChange 8 = .ok (.ireturn, 1) := by decide +kernel
theorem dX9_isChange_9 : decode cX9_isChange 9 = .ok (.aload_n 0, 1) := by decide +kernel
theorem dX9_isChange_10 : decode cX9_isChange 10 = .ok (.getfield 29, 3) := by decide +kernel
theorem dX9_isChange_13 : decode cX9_isChange 13 = .ok (.iconst 0, 1) := by decide +kernel
theorem dX9_isChange_14 : decode cX9_isChange 14 = .ok (.aload_n 0, 1) := by decide +kernel
theorem dX9_isChange_15 : decode cX9_isChange 15 = .ok (.getfield 165, 3) := by decide +kernel
theorem dX9_isChange_18 : decode cX9_isChange 18 = .ok (.iastore, 1) := by decide +kernel
theorem dX9_isChange_19 : decode cX9_isChange 19 = .ok (.aload_n 0, 1) := by decide +kernel
theorem dX9_isChange_20 : decode cX9_isChange 20 = .ok (.bipush 58, 2) := by decide +kernel
theorem dX9_isChange_22 : decode cX9_isChange 22 = .ok (.invokevirtual 175, 3) := by decide +kernel
theorem dX9_isChange_25 : decode cX9_isChange 25 = .ok (.ifCond .eq 14, 3) := by decide +kernel
theorem dX9_isChange_28 : decode cX9_isChange 28 = .ok (.aload_n 0, 1) := by decide +kernel
theorem dX9_isChange_29 : decode cX9_isChange 29 = .ok (.bipush 48, 2) := by decide +kernel
theorem dX9_isChange_31 : decode cX9_isChange 31 = .ok (.bipush 50, 2) := by decide +kernel
theorem dX9_isChange_33 : decode cX9_isChange 33 = .ok (.invokevirtual 168, 3) := by decide +kernel
theorem dX9_isChange_36 : decode cX9_isChange 36 = .ok (.ifCond .ne 5, 3) := by decide +kernel
theorem dX9_isChange_39 : decode cX9_isChange 39 = .ok (.iconst 0, 1) := by decide +kernel
theorem dX9_isChange_40 : decode cX9_isChange 40 = .ok (.ireturn, 1) := by decide +kernel
theorem dX9_isChange_41 : decode cX9_isChange 41 = .ok (.aload_n 0, 1) := by decide +kernel
theorem dX9_isChange_42 : decode cX9_isChange 42 = .ok (.getfield 29, 3) := by decide +kernel
theorem dX9_isChange_45 : decode cX9_isChange 45 = .ok (.iconst 1, 1) := by decide +kernel
theorem dX9_isChange_46 : decode cX9_isChange 46 = .ok (.aload_n 0, 1) := by decide +kernel
theorem dX9_isChange_47 : decode cX9_isChange 47 = .ok (.getfield 26, 3) := by decide +kernel
theorem dX9_isChange_50 : decode cX9_isChange 50 = .ok (.aload_n 0, 1) := by decide +kernel
theorem dX9_isChange_51 : decode cX9_isChange 51 = .ok (.getfield 162, 3) := by decide +kernel
theorem dX9_isChange_54 : decode cX9_isChange 54 = .ok (.iaload, 1) := by decide +kernel
theorem dX9_isChange_55 : decode cX9_isChange 55 = .ok (.bipush 48, 2) := by decide +kernel
theorem dX9_isChange_57 : decode cX9_isChange 57 = .ok (.isub, 1) := by decide +kernel
theorem dX9_isChange_58 : decode cX9_isChange 58 = .ok (.iastore, 1) := by decide +kernel
theorem dX9_isChange_59 : decode cX9_isChange 59 = .ok (.aload_n 0, 1) := by decide +kernel
theorem dX9_isChange_60 : decode cX9_isChange 60 = .ok (.getfield 29, 3) := by decide +kernel
theorem dX9_isChange_63 : decode cX9_isChange 63 = .ok (.iconst 2, 1) := by decide +kernel
theorem dX9_isChange_64 : decode cX9_isChange 64 = .ok (.iconst (-1), 1) := by decide +kernel
theorem dX9_isChange_65 : decode cX9_isChange 65 = .ok (.iastore, 1) := by decide +kernel
theorem dX9_isChange_66 : decode cX9_isChange 66 = .ok (.aload_n 0, 1) := by decide +kernel
theorem dX9_isChange_67 : decode cX9_isChange 67 = .ok (.dup, 1) := by decide +kernel
theorem dX9_isChange_68 : decode cX9_isChange 68 = .ok (.getfield 162, 3) := by decide +kernel
theorem dX9_isChange_71 : decode cX9_isChange 71 = .ok (.iconst 1, 1) := by decide +kernel
theorem dX9_isChange_72 : decode cX9_isChange 72 = .ok (.iadd, 1) := by decide +kernel
theorem dX9_isChange_73 : decode cX9_isChange 73 = .ok (.putfield 162, 3) := by decide +kernel
theorem dX9_isChange_76 : decode cX9_isChange 76 = .ok (.aload_n 0, 1) := by decide +kernel
theorem dX9_isChange_77 : decode cX9_isChange 77 = .ok (.bipush 45, 2) := by decide +kernel
theorem dX9_isChange_79 : decode cX9_isChange 79 = .ok (.invokevirtual 175, 3) := by decide +kernel
theorem dX9_isChange_82 : decode cX9_isChange 82 = .ok (.ifCond .eq 10, 3) := by decide +kernel
theorem dX9_isChange_85 : decode cX9_isChange 85 = .ok (.aload_n 0, 1) := by decide +kernel
theorem dX9_isChange_86 : decode cX9_isChange 86 = .ok (.bipush 59, 2) := by decide +kernel
theorem dX9_isChange_88 : decode cX9_isChange 88 = .ok (.invokevirtual 175, 3) := by decide +kernel
theorem dX9_isChange_91 : decode cX9_isChange 91 = .ok (.ireturn, 1) := by decide +kernel
theorem dX9_isChange_92 : decode cX9_isChange 92 = .ok (.aload_n 0, 1) := by decide +kernel
theorem dX9_isChange_93 : decode cX9_isChange 93 = .ok (.bipush 61, 2) := by decide +kernel
theorem dX9_isChange_95 : decode cX9_isChange 95 = .ok (.invokevirtual 175, 3) := by decide +kernel
theorem dX9_isChange_98 : decode cX9_isChange 98 = .ok (.ifCond .eq 30, 3) := by decide +kernel
theorem dX9_isChange_101 : decode cX9_isChange 101 = .ok (.aload_n 0, 1) := by decide +kernel
theorem dX9_isChange_102 : decode cX9_isChange 102 = .ok (.getfield 29, 3) := by decide +kernel
theorem dX9_isChange_105 : decode cX9_isChange 105 = .ok (.iconst 1, 1) := by decide +kernel
theorem dX9_isChange_106 : decode cX9_isChange 106 = .ok (.iaload, 1) := by decide +kernel
theorem dX9_isChange_107 : decode cX9_isChange 107 = .ok (.iconst 1, 1) := by decide +kernel
theorem dX9_isChange_108 : decode cX9_isChange 108 = .ok (.if_icmp .ne 13, 3) := by decide +kernel
theorem dX9_isChange_111 : decode cX9_isChange 111 = .ok (.aload_n 0, 1) := by decide +kernel
theorem dX9_isChange_112 : decode cX9_isChange 112 = .ok (.invokevirtual 171, 3) := by decide +kernel
theorem dX9_isChange_115 : decode cX9_isChange 115 = .ok (.ifCond .eq 13, 3) := by decide +kernel
theorem dX9_isChange_118 : decode cX9_isChange 118 = .ok (.goto 12, 3) := by decide +kernel
theorem dX9_isChange_121 : decode cX9_isChange 121 = .ok (.aload_n 0, 1) := by decide +kernel
theorem dX9_isChange_122 : decode cX9_isChange 122 = .ok (.invokevirtual 178, 3) := by decide +kernel
theorem dX9_isChange_125 : decode cX9_isChange 125 = .ok (.ifCond .ne 5, 3) := by decide +kernel
theorem dX9_isChange_128 : decode cX9_isChange 128 = .ok (.iconst 0, 1) := by decide +kernel
theorem dX9_isChange_129 : decode cX9_isChange 129 = .ok (.ireturn, 1) := by decide +kernel
theorem dX9_isChange_130 : decode cX9_isChange 130 = .ok (.aload_n 0, 1) := by decide +kernel
theorem dX9_isChange_131 : decode cX9_isChange 131 = .ok (.getfield 29, 3) := by decide +kernel
theorem dX9_isChange_134 : decode cX9_isChange 134 = .ok (.iconst 2, 1) := by decide +kernel
theorem dX9_isChange_135 : decode cX9_isChange 135 = .ok (.aload_n 0, 1) := by decide +kernel
theorem dX9_isChange_136 : decode cX9_isChange 136 = .ok (.getfield 165, 3) := by decide +kernel
theorem dX9_isChange_139 : decode cX9_isChange 139 = .ok (.iastore, 1) := by decide +kernel
theorem dX9_isChange_140 : decode cX9_isChange 140 = .ok (.aload_n 0, 1) := by decide +kernel
theorem dX9_isChange_141 : decode cX9_isChange 141 = .ok (.getfield 29, 3) := by decide +kernel
theorem dX9_isChange_144 : decode cX9_isChange 144 = .ok (.iconst 1, 1) := by decide +kernel
theorem dX9_isChange_145 : decode cX9_isChange 145 = .ok (.iaload, 1) := by decide +kernel
theorem dX9_isChange_146 : decode cX9_isChange 146 = .ok (.aload_n 0, 1) := by decide +kernel
theorem dX9_isChange_147 : decode cX9_isChange 147 = .ok (.getfield 165, 3) := by decide +kernel
theorem dX9_isChange_150 : decode cX9_isChange 150 = .ok (.invokestatic 116, 3) := by decide +kernel
theorem dX9_isChange_153 : decode cX9_isChange 153 = .ok (.ifCond .eq 16, 3) := by decide +kernel
theorem dX9_isChange_156 : decode cX9_isChange 156 = .ok (.aload_n 0, 1) := by decide +kernel
theorem dX9_isChange_157 : decode cX9_isChange 157 = .ok (.bipush 59, 2) := by decide +kernel
theorem dX9_isChange_159 : decode cX9_isChange 159 = .ok (.invokevirtual 175, 3) := by decide +kernel
theorem dX9_isChange_162 : decode cX9_isChange 162 = .ok (.ifCond .eq 7, 3) := by decide +kernel
theorem dX9_isChange_165 : decode cX9_isChange 165 = .ok (.iconst 1, 1) := by decide +kernel
theorem dX9_isChange_166 : decode cX9_isChange 166 = .ok (.goto 4, 3) := by decide +kernel
theorem dX9_isChange_169 : decode cX9_isChange 169 = .ok (.iconst 0, 1) := by decide +kernel
theorem dX9_isChange_170 : decode cX9_isChange 170 = .ok (.ireturn, 1) := by decide +kernel
theorem dX9_faultAt_0 : decode cX9_faultAt 0 = .ok (.aload_n 0, 1) := by decide +kernel
theorem dX9_faultAt_1 : decode cX9_faultAt 1 = .ok (.iconst 0, 1) := by decide +kernel
theorem dX9_faultAt_2 : decode cX9_faultAt 2 = .ok (.putfield 162, 3) := by decide +kernel
theorem dX9_faultAt_5 : decode cX9_faultAt 5 = .ok (.aload_n 0, 1) := by decide +kernel
theorem dX9_faultAt_6 : decode cX9_faultAt 6 = .ok (.getfield 162, 3) := by decide +kernel
theorem dX9_faultAt_9 : decode cX9_faultAt 9 = .ok (.aload_n 0, 1) := by decide +kernel
theorem dX9_faultAt_10 : decode cX9_faultAt 10 = .ok (.getfield 159, 3) := by decide +kernel
theorem dX9_faultAt_13 : decode cX9_faultAt 13 = .ok (.if_icmp .ge 20, 3) := by decide +kernel
theorem dX9_faultAt_16 : decode cX9_faultAt 16 = .ok (.aload_n 0, 1) := by decide +kernel
theorem dX9_faultAt_17 : decode cX9_faultAt 17 = .ok (.getfield 162, 3) := by decide +kernel
theorem dX9_faultAt_20 : decode cX9_faultAt 20 = .ok (.istore_n 1, 1) := by decide +kernel
theorem dX9_faultAt_21 : decode cX9_faultAt 21 = .ok (.aload_n 0, 1) := by decide +kernel
theorem dX9_faultAt_22 : decode cX9_faultAt 22 = .ok (.invokevirtual 181, 3) := by decide +kernel
theorem dX9_faultAt_25 : decode cX9_faultAt 25 = .ok (.ifCond .ne 5, 3) := by decide +kernel
theorem dX9_faultAt_28 : decode cX9_faultAt 28 = .ok (.iload_n 1, 1) := by decide +kernel
theorem dX9_faultAt_29 : decode cX9_faultAt 29 = .ok (.ireturn, 1) := by decide +kernel
theorem dX9_faultAt_30 : decode cX9_faultAt 30 = .ok (.goto (-25), 3) := by decide +kernel
theorem dX9_faultAt_33 : decode cX9_faultAt 33 = .ok (.bipush (-4), 2) := by decide +kernel
theorem dX9_faultAt_35 : decode cX9_faultAt 35 = .ok (.ireturn, 1) := by decide +kernel
theorem dX9_fault_0 : decode cX9_fault 0 = .ok (.aload_n 0, 1) := by decide +kernel
theorem dX9_fault_1 : decode cX9_fault 1 = .ok (.invokevirtual 184, 3) := by decide +kernel
theorem dX9_fault_4 : decode cX9_fault 4 = .ok (.ireturn, 1) := by decide +kernel
theorem dX9_lay_0 : decode cX9_lay 0 = .ok (.aload_n 0, 1) := by decide +kernel
theorem dX9_lay_1 : decode cX9_lay 1 = .ok (.iload_n 1, 1) := by decide +kernel
theorem dX9_lay_2 : decode cX9_lay 2 = .ok (.invokevirtual 85, 3) := by decide +kernel
theorem dX9_lay_5 : decode cX9_lay 5 = .ok (.ifCond .ne 5, 3) := by decide +kernel
theorem dX9_lay_8 : decode cX9_lay 8 = .ok (.iconst (-1), 1) := by decide +kernel
theorem dX9_lay_9 : decode cX9_lay 9 = .ok (.ireturn, 1) := by decide +kernel
theorem dX9_lay_10 : decode cX9_lay 10 = .ok (.aload_n 0, 1) := by decide +kernel
theorem dX9_lay_11 : decode cX9_lay 11 = .ok (.iload_n 1, 1) := by decide +kernel
theorem dX9_lay_12 : decode cX9_lay 12 = .ok (.invokevirtual 82, 3) := by decide +kernel
theorem dX9_lay_15 : decode cX9_lay 15 = .ok (.ifCond .ne 10, 3) := by decide +kernel
theorem dX9_lay_18 : decode cX9_lay 18 = .ok (.aload_n 0, 1) := by decide +kernel
theorem dX9_lay_19 : decode cX9_lay 19 = .ok (.invokevirtual 184, 3) := by decide +kernel
theorem dX9_lay_22 : decode cX9_lay 22 = .ok (.ifCond .lt 6, 3) := by decide +kernel
theorem dX9_lay_25 : decode cX9_lay 25 = .ok (.bipush (-2), 2) := by decide +kernel
theorem dX9_lay_27 : decode cX9_lay 27 = .ok (.ireturn, 1) := by decide +kernel
theorem dX9_lay_28 : decode cX9_lay 28 = .ok (.iconst 0, 1) := by decide +kernel
theorem dX9_lay_29 : decode cX9_lay 29 = .ok (.istore_n 2, 1) := by decide +kernel
theorem dX9_lay_30 : decode cX9_lay 30 = .ok (.iconst 1, 1) := by decide +kernel
theorem dX9_lay_31 : decode cX9_lay 31 = .ok (.istore_n 3, 1) := by decide +kernel
theorem dX9_lay_32 : decode cX9_lay 32 = .ok (.aload_n 0, 1) := by decide +kernel
theorem dX9_lay_33 : decode cX9_lay 33 = .ok (.iconst 0, 1) := by decide +kernel
theorem dX9_lay_34 : decode cX9_lay 34 = .ok (.putfield 162, 3) := by decide +kernel
theorem dX9_lay_37 : decode cX9_lay 37 = .ok (.aload_n 0, 1) := by decide +kernel
theorem dX9_lay_38 : decode cX9_lay 38 = .ok (.getfield 162, 3) := by decide +kernel
theorem dX9_lay_41 : decode cX9_lay 41 = .ok (.aload_n 0, 1) := by decide +kernel
theorem dX9_lay_42 : decode cX9_lay 42 = .ok (.getfield 159, 3) := by decide +kernel
theorem dX9_lay_45 : decode cX9_lay 45 = .ok (.if_icmp .ge 48, 3) := by decide +kernel
theorem dX9_lay_48 : decode cX9_lay 48 = .ok (.aload_n 0, 1) := by decide +kernel
theorem dX9_lay_49 : decode cX9_lay 49 = .ok (.invokevirtual 181, 3) := by decide +kernel
theorem dX9_lay_52 : decode cX9_lay 52 = .ok (.ifCond .eq 33, 3) := by decide +kernel
theorem dX9_lay_55 : decode cX9_lay 55 = .ok (.aload_n 0, 1) := by decide +kernel
theorem dX9_lay_56 : decode cX9_lay 56 = .ok (.getfield 29, 3) := by decide +kernel
theorem dX9_lay_59 : decode cX9_lay 59 = .ok (.iconst 0, 1) := by decide +kernel
theorem dX9_lay_60 : decode cX9_lay 60 = .ok (.iaload, 1) := by decide +kernel
theorem dX9_lay_61 : decode cX9_lay 61 = .ok (.aload_n 0, 1) := by decide +kernel
theorem dX9_lay_62 : decode cX9_lay 62 = .ok (.getfield 13, 3) := by decide +kernel
theorem dX9_lay_65 : decode cX9_lay 65 = .ok (.iconst 4, 1) := by decide +kernel
theorem dX9_lay_66 : decode cX9_lay 66 = .ok (.iload_n 1, 1) := by decide +kernel
theorem dX9_lay_67 : decode cX9_lay 67 = .ok (.imul, 1) := by decide +kernel
theorem dX9_lay_68 : decode cX9_lay 68 = .ok (.iconst 1, 1) := by decide +kernel
theorem dX9_lay_69 : decode cX9_lay 69 = .ok (.iadd, 1) := by decide +kernel
theorem dX9_lay_70 : decode cX9_lay 70 = .ok (.iaload, 1) := by decide +kernel
theorem dX9_lay_71 : decode cX9_lay 71 = .ok (.invokestatic 50, 3) := by decide +kernel
theorem dX9_lay_74 : decode cX9_lay 74 = .ok (.ifCond .eq 11, 3) := by decide +kernel
theorem dX9_lay_77 : decode cX9_lay 77 = .ok (.iload_n 3, 1) := by decide +kernel
theorem dX9_lay_78 : decode cX9_lay 78 = .ok (.ifCond .eq 7, 3) := by decide +kernel
theorem dX9_lay_81 : decode cX9_lay 81 = .ok (.iconst 1, 1) := by decide +kernel
theorem dX9_lay_82 : decode cX9_lay 82 = .ok (.goto 4, 3) := by decide +kernel
theorem dX9_lay_85 : decode cX9_lay 85 = .ok (.iconst 0, 1) := by decide +kernel
theorem dX9_lay_86 : decode cX9_lay 86 = .ok (.istore_n 3, 1) := by decide +kernel
theorem dX9_lay_87 : decode cX9_lay 87 = .ok (.iinc 2 1, 3) := by decide +kernel
theorem dX9_lay_90 : decode cX9_lay 90 = .ok (.goto (-53), 3) := by decide +kernel
theorem dX9_lay_93 : decode cX9_lay 93 = .ok (.iload_n 3, 1) := by decide +kernel
theorem dX9_lay_94 : decode cX9_lay 94 = .ok (.ifCond .ne 6, 3) := by decide +kernel
theorem dX9_lay_97 : decode cX9_lay 97 = .ok (.bipush (-2), 2) := by decide +kernel
theorem dX9_lay_99 : decode cX9_lay 99 = .ok (.ireturn, 1) := by decide +kernel
theorem dX9_lay_100 : decode cX9_lay 100 = .ok (.aload_n 0, 1) := by decide +kernel
theorem dX9_lay_101 : decode cX9_lay 101 = .ok (.getfield 91, 3) := by decide +kernel
theorem dX9_lay_104 : decode cX9_lay 104 = .ok (.iload_n 2, 1) := by decide +kernel
theorem dX9_lay_105 : decode cX9_lay 105 = .ok (.iadd, 1) := by decide +kernel
theorem dX9_lay_106 : decode cX9_lay 106 = .ok (.bipush 70, 2) := by decide +kernel
theorem dX9_lay_108 : decode cX9_lay 108 = .ok (.if_icmp .le 6, 3) := by decide +kernel
theorem dX9_lay_111 : decode cX9_lay 111 = .ok (.bipush (-3), 2) := by decide +kernel
theorem dX9_lay_113 : decode cX9_lay 113 = .ok (.ireturn, 1) := by decide +kernel
theorem dX9_lay_114 : decode cX9_lay 114 = .ok (.aload_n 0, 1) := by decide +kernel
theorem dX9_lay_115 : decode cX9_lay 115 = .ok (.iconst 0, 1) := by decide +kernel
theorem dX9_lay_116 : decode cX9_lay 116 = .ok (.putfield 162, 3) := by decide +kernel
theorem dX9_lay_119 : decode cX9_lay 119 = .ok (.aload_n 0, 1) := by decide +kernel
theorem dX9_lay_120 : decode cX9_lay 120 = .ok (.getfield 162, 3) := by decide +kernel
theorem dX9_lay_123 : decode cX9_lay 123 = .ok (.aload_n 0, 1) := by decide +kernel
theorem dX9_lay_124 : decode cX9_lay 124 = .ok (.getfield 159, 3) := by decide +kernel
theorem dX9_lay_127 : decode cX9_lay 127 = .ok (.if_icmp .ge 73, 3) := by decide +kernel
theorem dX9_lay_130 : decode cX9_lay 130 = .ok (.aload_n 0, 1) := by decide +kernel
theorem dX9_lay_131 : decode cX9_lay 131 = .ok (.invokevirtual 181, 3) := by decide +kernel
theorem dX9_lay_134 : decode cX9_lay 134 = .ok (.istore 4, 2) := by decide +kernel
theorem dX9_lay_136 : decode cX9_lay 136 = .ok (.iload 4, 2) := by decide +kernel
theorem dX9_lay_138 : decode cX9_lay 138 = .ok (.ifCond .eq 59, 3) := by decide +kernel
theorem dX9_lay_141 : decode cX9_lay 141 = .ok (.aload_n 0, 1) := by decide +kernel
theorem dX9_lay_142 : decode cX9_lay 142 = .ok (.getfield 29, 3) := by decide +kernel
theorem dX9_lay_145 : decode cX9_lay 145 = .ok (.iconst 2, 1) := by decide +kernel
theorem dX9_lay_146 : decode cX9_lay 146 = .ok (.iaload, 1) := by decide +kernel
theorem dX9_lay_147 : decode cX9_lay 147 = .ok (.ifCond .ge 27, 3) := by decide +kernel
theorem dX9_lay_150 : decode cX9_lay 150 = .ok (.aload_n 0, 1) := by decide +kernel
theorem dX9_lay_151 : decode cX9_lay 151 = .ok (.iload_n 1, 1) := by decide +kernel
theorem dX9_lay_152 : decode cX9_lay 152 = .ok (.aload_n 0, 1) := by decide +kernel
theorem dX9_lay_153 : decode cX9_lay 153 = .ok (.getfield 29, 3) := by decide +kernel
theorem dX9_lay_156 : decode cX9_lay 156 = .ok (.iconst 0, 1) := by decide +kernel
theorem dX9_lay_157 : decode cX9_lay 157 = .ok (.iaload, 1) := by decide +kernel
theorem dX9_lay_158 : decode cX9_lay 158 = .ok (.aload_n 0, 1) := by decide +kernel
theorem dX9_lay_159 : decode cX9_lay 159 = .ok (.getfield 29, 3) := by decide +kernel
theorem dX9_lay_162 : decode cX9_lay 162 = .ok (.iconst 1, 1) := by decide +kernel
theorem dX9_lay_163 : decode cX9_lay 163 = .ok (.iaload, 1) := by decide +kernel
theorem dX9_lay_164 : decode cX9_lay 164 = .ok (.aload_n 0, 1) := by decide +kernel
theorem dX9_lay_165 : decode cX9_lay 165 = .ok (.getfield 32, 3) := by decide +kernel
theorem dX9_lay_168 : decode cX9_lay 168 = .ok (.invokevirtual 103, 3) := by decide +kernel
theorem dX9_lay_171 : decode cX9_lay 171 = .ok (.ifCond .lt 26, 3) := by decide +kernel
theorem dX9_lay_174 : decode cX9_lay 174 = .ok (.aload_n 0, 1) := by decide +kernel
theorem dX9_lay_175 : decode cX9_lay 175 = .ok (.iload_n 1, 1) := by decide +kernel
theorem dX9_lay_176 : decode cX9_lay 176 = .ok (.aload_n 0, 1) := by decide +kernel
theorem dX9_lay_177 : decode cX9_lay 177 = .ok (.getfield 29, 3) := by decide +kernel
theorem dX9_lay_180 : decode cX9_lay 180 = .ok (.iconst 0, 1) := by decide +kernel
theorem dX9_lay_181 : decode cX9_lay 181 = .ok (.iaload, 1) := by decide +kernel
theorem dX9_lay_182 : decode cX9_lay 182 = .ok (.aload_n 0, 1) := by decide +kernel
theorem dX9_lay_183 : decode cX9_lay 183 = .ok (.getfield 29, 3) := by decide +kernel
theorem dX9_lay_186 : decode cX9_lay 186 = .ok (.iconst 1, 1) := by decide +kernel
theorem dX9_lay_187 : decode cX9_lay 187 = .ok (.iaload, 1) := by decide +kernel
theorem dX9_lay_188 : decode cX9_lay 188 = .ok (.aload_n 0, 1) := by decide +kernel
theorem dX9_lay_189 : decode cX9_lay 189 = .ok (.getfield 29, 3) := by decide +kernel
theorem dX9_lay_192 : decode cX9_lay 192 = .ok (.iconst 2, 1) := by decide +kernel
theorem dX9_lay_193 : decode cX9_lay 193 = .ok (.iaload, 1) := by decide +kernel
theorem dX9_lay_194 : decode cX9_lay 194 = .ok (.invokevirtual 119, 3) := by decide +kernel
theorem dX9_lay_197 : decode cX9_lay 197 = .ok (.goto (-78), 3) := by decide +kernel
theorem dX9_lay_200 : decode cX9_lay 200 = .ok (.aload_n 0, 1) := by decide +kernel
theorem dX9_lay_201 : decode cX9_lay 201 = .ok (.iload_n 1, 1) := by decide +kernel
theorem dX9_lay_202 : decode cX9_lay 202 = .ok (.invokevirtual 88, 3) := by decide +kernel
theorem dX9_lay_205 : decode cX9_lay 205 = .ok (.ireturn, 1) := by decide +kernel
