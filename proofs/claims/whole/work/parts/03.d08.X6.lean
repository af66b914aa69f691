theorem dX6_init_0 : decode cX6_init 0 = .ok (.aload_n 0, 1) := by decide +kernel
theorem dX6_init_1 : decode cX6_init 1 = .ok (.invokespecial 5, 3) := by decide +kernel
theorem dX6_init_4 : decode cX6_init 4 = .ok (.aload_n 0, 1) := by decide +kernel
theorem dX6_init_5 : decode cX6_init 5 = .ok (.bipush 60, 2) := by decide +kernel
theorem dX6_init_7 : decode cX6_init 7 = .ok (.newarray .int, 2) := by decide +kernel
theorem dX6_init_9 : decode cX6_init 9 = .ok (.putfield 11, 3) := by decide +kernel
theorem dX6_init_12 : decode cX6_init 12 = .ok (.aload_n 0, 1) := by decide +kernel
theorem dX6_init_13 : decode cX6_init 13 = .ok (.iconst 0, 1) := by decide +kernel
theorem dX6_init_14 : decode cX6_init 14 = .ok (.putfield 15, 3) := by decide +kernel
theorem dX6_init_17 : decode cX6_init 17 = .ok (.aload_n 0, 1) := by decide +kernel
theorem dX6_init_18 : decode cX6_init 18 = .ok (.bipush 12, 2) := by decide +kernel
theorem dX6_init_20 : decode cX6_init 20 = .ok (.newarray .int, 2) := by decide +kernel
theorem dX6_init_22 : decode cX6_init 22 = .ok (.putfield 19, 3) := by decide +kernel
theorem dX6_init_25 : decode cX6_init 25 = .ok (.aload_n 0, 1) := by decide +kernel
theorem dX6_init_26 : decode cX6_init 26 = .ok (.bipush 12, 2) := by decide +kernel
theorem dX6_init_28 : decode cX6_init 28 = .ok (.newarray .int, 2) := by decide +kernel
theorem dX6_init_30 : decode cX6_init 30 = .ok (.putfield 22, 3) := by decide +kernel
theorem dX6_init_33 : decode cX6_init 33 = .ok (.aload_n 0, 1) := by decide +kernel
theorem dX6_init_34 : decode cX6_init 34 = .ok (.bipush 12, 2) := by decide +kernel
theorem dX6_init_36 : decode cX6_init 36 = .ok (.newarray .int, 2) := by decide +kernel
theorem dX6_init_38 : decode cX6_init 38 = .ok (.putfield 25, 3) := by decide +kernel
theorem dX6_init_41 : decode cX6_init 41 = .ok (.aload_n 0, 1) := by decide +kernel
theorem dX6_init_42 : decode cX6_init 42 = .ok (.iconst 0, 1) := by decide +kernel
theorem dX6_init_43 : decode cX6_init 43 = .ok (.putfield 28, 3) := by decide +kernel
theorem dX6_init_46 : decode cX6_init 46 = .ok (.return_, 1) := by decide +kernel
theorem dX6_append_0 : decode cX6_append 0 = .ok (.aload_n 0, 1) := by decide +kernel
theorem dX6_append_1 : decode cX6_append 1 = .ok (.getfield 15, 3) := by decide +kernel
theorem dX6_append_4 : decode cX6_append 4 = .ok (.bipush 60, 2) := by decide +kernel
theorem dX6_append_6 : decode cX6_append 6 = .ok (.if_icmp .ge 23, 3) := by decide +kernel
theorem dX6_append_9 : decode cX6_append 9 = .ok (.aload_n 0, 1) := by decide +kernel
theorem dX6_append_10 : decode cX6_append 10 = .ok (.getfield 11, 3) := by decide +kernel
theorem dX6_append_13 : decode cX6_append 13 = .ok (.aload_n 0, 1) := by decide +kernel
theorem dX6_append_14 : decode cX6_append 14 = .ok (.getfield 15, 3) := by decide +kernel
theorem dX6_append_17 : decode cX6_append 17 = .ok (.iload_n 1, 1) := by decide +kernel
theorem dX6_append_18 : decode cX6_append 18 = .ok (.iastore, 1) := by decide +kernel
theorem dX6_append_19 : decode cX6_append 19 = .ok (.aload_n 0, 1) := by decide +kernel
theorem dX6_append_20 : decode cX6_append 20 = .ok (.dup, 1) := by decide +kernel
theorem dX6_append_21 : decode cX6_append 21 = .ok (.getfield 15, 3) := by decide +kernel
theorem dX6_append_24 : decode cX6_append 24 = .ok (.iconst 1, 1) := by decide +kernel
theorem dX6_append_25 : decode cX6_append 25 = .ok (.iadd, 1) := by decide +kernel
theorem dX6_append_26 : decode cX6_append 26 = .ok (.putfield 15, 3) := by decide +kernel
theorem dX6_append_29 : decode cX6_append 29 = .ok (.return_, 1) := by decide +kernel
theorem dX6_read_0 : decode cX6_read 0 = .ok (.aload_n 0, 1) := by decide +kernel
theorem dX6_read_1 : decode cX6_read 1 = .ok (.iconst 0, 1) := by decide +kernel
theorem dX6_read_2 : decode cX6_read 2 = .ok (.putfield 28, 3) := by decide +kernel
theorem dX6_read_5 : decode cX6_read 5 = .ok (.iconst 0, 1) := by decide +kernel
theorem dX6_read_6 : decode cX6_read 6 = .ok (.istore_n 1, 1) := by decide +kernel
theorem dX6_read_7 : decode cX6_read 7 = .ok (.iconst 0, 1) := by decide +kernel
theorem dX6_read_8 : decode cX6_read 8 = .ok (.istore_n 2, 1) := by decide +kernel
theorem dX6_read_9 : decode cX6_read 9 = .ok (.iload_n 2, 1) := by decide +kernel
theorem dX6_read_10 : decode cX6_read 10 = .ok (.bipush 12, 2) := by decide +kernel
theorem dX6_read_12 : decode cX6_read 12 = .ok (.if_icmp .ge 32, 3) := by decide +kernel
theorem dX6_read_15 : decode cX6_read 15 = .ok (.iload_n 1, 1) := by decide +kernel
theorem dX6_read_16 : decode cX6_read 16 = .ok (.aload_n 0, 1) := by decide +kernel
theorem dX6_read_17 : decode cX6_read 17 = .ok (.getfield 15, 3) := by decide +kernel
theorem dX6_read_20 : decode cX6_read 20 = .ok (.if_icmp .ge 24, 3) := by decide +kernel
theorem dX6_read_23 : decode cX6_read 23 = .ok (.aload_n 0, 1) := by decide +kernel
theorem dX6_read_24 : decode cX6_read 24 = .ok (.iload_n 1, 1) := by decide +kernel
theorem dX6_read_25 : decode cX6_read 25 = .ok (.invokevirtual 31, 3) := by decide +kernel
theorem dX6_read_28 : decode cX6_read 28 = .ok (.istore_n 3, 1) := by decide +kernel
theorem dX6_read_29 : decode cX6_read 29 = .ok (.iload_n 3, 1) := by decide +kernel
theorem dX6_read_30 : decode cX6_read 30 = .ok (.iconst (-1), 1) := by decide +kernel
theorem dX6_read_31 : decode cX6_read 31 = .ok (.if_icmp .ne 5, 3) := by decide +kernel
theorem dX6_read_34 : decode cX6_read 34 = .ok (.iload_n 1, 1) := by decide +kernel
theorem dX6_read_35 : decode cX6_read 35 = .ok (.ireturn, 1) := by decide +kernel
theorem dX6_read_36 : decode cX6_read 36 = .ok (.iload_n 3, 1) := by decide +kernel
theorem dX6_read_37 : decode cX6_read 37 = .ok (.istore_n 1, 1) := by decide +kernel
theorem dX6_read_38 : decode cX6_read 38 = .ok (.iinc 2 1, 3) := by decide +kernel
theorem dX6_read_41 : decode cX6_read 41 = .ok (.goto (-32), 3) := by decide +kernel
theorem dX6_read_44 : decode cX6_read 44 = .ok (.iload_n 1, 1) := by decide +kernel
theorem dX6_read_45 : decode cX6_read 45 = .ok (.aload_n 0, 1) := by decide +kernel
theorem dX6_read_46 : decode cX6_read 46 = .ok (.getfield 15, 3) := by decide +kernel
theorem dX6_read_49 : decode cX6_read 49 = .ok (.if_icmp .ge 7, 3) := by decide +kernel
theorem dX6_read_52 : decode cX6_read 52 = .ok (.iload_n 1, 1) := by decide +kernel
theorem dX6_read_53 : decode cX6_read 53 = .ok (.goto 5, 3) := by decide +kernel
theorem dX6_read_56 : decode cX6_read 56 = .ok (.bipush (-4), 2) := by decide +kernel
theorem dX6_read_58 : decode cX6_read 58 = .ok (.ireturn, 1) := by decide +kernel
theorem dX6_isAllAt_0 : decode cX6_isAllAt 0 = .ok (.iconst 0, 1) := by decide +kernel
theorem dX6_isAllAt_1 : decode cX6_isAllAt 1 = .ok (.istore_n 2, 1) := by decide +kernel
theorem dX6_isAllAt_2 : decode cX6_isAllAt 2 = .ok (.iload_n 2, 1) := by decide +kernel
theorem dX6_isAllAt_3 : decode cX6_isAllAt 3 = .ok (.aload_n 0, 1) := by decide +kernel
theorem dX6_isAllAt_4 : decode cX6_isAllAt 4 = .ok (.getfield 28, 3) := by decide +kernel
theorem dX6_isAllAt_7 : decode cX6_isAllAt 7 = .ok (.if_icmp .ge 24, 3) := by decide +kernel
theorem dX6_isAllAt_10 : decode cX6_isAllAt 10 = .ok (.aload_n 0, 1) := by decide +kernel
theorem dX6_isAllAt_11 : decode cX6_isAllAt 11 = .ok (.getfield 19, 3) := by decide +kernel
theorem dX6_isAllAt_14 : decode cX6_isAllAt 14 = .ok (.iload_n 2, 1) := by decide +kernel
theorem dX6_isAllAt_15 : decode cX6_isAllAt 15 = .ok (.iaload, 1) := by decide +kernel
theorem dX6_isAllAt_16 : decode cX6_isAllAt 16 = .ok (.iload_n 1, 1) := by decide +kernel
theorem dX6_isAllAt_17 : decode cX6_isAllAt 17 = .ok (.invokestatic 35, 3) := by decide +kernel
theorem dX6_isAllAt_20 : decode cX6_isAllAt 20 = .ok (.ifCond .ne 5, 3) := by decide +kernel
theorem dX6_isAllAt_23 : decode cX6_isAllAt 23 = .ok (.iconst 0, 1) := by decide +kernel
theorem dX6_isAllAt_24 : decode cX6_isAllAt 24 = .ok (.ireturn, 1) := by decide +kernel
theorem dX6_isAllAt_25 : decode cX6_isAllAt 25 = .ok (.iinc 2 1, 3) := by decide +kernel
theorem dX6_isAllAt_28 : decode cX6_isAllAt 28 = .ok (.goto (-26), 3) := by decide +kernel
theorem dX6_isAllAt_31 : decode cX6_isAllAt 31 = .ok (.iconst 1, 1) := by decide +kernel
theorem dX6_isAllAt_32 : decode cX6_isAllAt 32 = .ok (.ireturn, 1) := by decide +kernel
theorem dX6_readChange_0 : decode cX6_readChange 0 = .ok (.iload_n 1, 1) := by decide +kernel
theorem dX6_readChange_1 : decode cX6_readChange 1 = .ok (.aload_n 0, 1) := by decide +kernel
theorem dX6_readChange_2 : decode cX6_readChange 2 = .ok (.iload_n 1, 1) := by decide +kernel
theorem dX6_readChange_3 : decode cX6_readChange 3 = .ok (.bipush 49, 2) := by decide +kernel
theorem dX6_readChange_5 : decode cX6_readChange 5 = .ok (.bipush 52, 2) := by decide +kernel
theorem dX6_readChange_7 : decode cX6_readChange 7 = .ok (.invokevirtual 41, 3) := by decide +kernel
theorem dX6_readChange_10 : decode cX6_readChange 10 = .ok (.iadd, 1) := by decide +kernel
theorem dX6_readChange_11 : decode cX6_readChange 11 = .ok (.istore_n 2, 1) := by decide +kernel
theorem dX6_readChange_12 : decode cX6_readChange 12 = .ok (.aload_n 0, 1) := by decide +kernel
theorem dX6_readChange_13 : decode cX6_readChange 13 = .ok (.iload_n 2, 1) := by decide +kernel
theorem dX6_readChange_14 : decode cX6_readChange 14 = .ok (.iconst 1, 1) := by decide +kernel
theorem dX6_readChange_15 : decode cX6_readChange 15 = .ok (.iadd, 1) := by decide +kernel
theorem dX6_readChange_16 : decode cX6_readChange 16 = .ok (.invokevirtual 45, 3) := by decide +kernel
theorem dX6_readChange_19 : decode cX6_readChange 19 = .ok (.bipush 48, 2) := by decide +kernel
theorem dX6_readChange_21 : decode cX6_readChange 21 = .ok (.isub, 1) := by decide +kernel
theorem dX6_readChange_22 : decode cX6_readChange 22 = .ok (.istore_n 3, 1) := by decide +kernel
theorem dX6_readChange_23 : decode cX6_readChange 23 = .ok (.iload_n 2, 1) := by decide +kernel
theorem dX6_readChange_24 : decode cX6_readChange 24 = .ok (.iload_n 1, 1) := by decide +kernel
theorem dX6_readChange_25 : decode cX6_readChange 25 = .ok (.if_icmp .eq 20, 3) := by decide +kernel
theorem dX6_readChange_28 : decode cX6_readChange 28 = .ok (.aload_n 0, 1) := by decide +kernel
theorem dX6_readChange_29 : decode cX6_readChange 29 = .ok (.iload_n 2, 1) := by decide +kernel
theorem dX6_readChange_30 : decode cX6_readChange 30 = .ok (.invokevirtual 45, 3) := by decide +kernel
theorem dX6_readChange_33 : decode cX6_readChange 33 = .ok (.bipush 58, 2) := by decide +kernel
theorem dX6_readChange_35 : decode cX6_readChange 35 = .ok (.if_icmp .ne 10, 3) := by decide +kernel
theorem dX6_readChange_38 : decode cX6_readChange 38 = .ok (.iload_n 3, 1) := by decide +kernel
theorem dX6_readChange_39 : decode cX6_readChange 39 = .ok (.invokestatic 48, 3) := by decide +kernel
theorem dX6_readChange_42 : decode cX6_readChange 42 = .ok (.ifCond .ne 5, 3) := by decide +kernel
theorem dX6_readChange_45 : decode cX6_readChange 45 = .ok (.iconst (-1), 1) := by decide +kernel
theorem dX6_readChange_46 : decode cX6_readChange 46 = .ok (.ireturn, 1) := by decide +kernel
theorem dX6_readChange_47 : decode cX6_readChange 47 = .ok (.iload_n 2, 1) := by decide +kernel
theorem dX6_readChange_48 : decode cX6_readChange 48 = .ok (.iconst 2, 1) := by decide +kernel
theorem dX6_readChange_49 : decode cX6_readChange 49 = .ok (.iadd, 1) := by decide +kernel
theorem dX6_readChange_50 : decode cX6_readChange 50 = .ok (.istore 4, 2) := by decide +kernel
theorem dX6_readChange_52 : decode cX6_readChange 52 = .ok (.iconst (-1), 1) := by decide +kernel
theorem dX6_readChange_53 : decode cX6_readChange 53 = .ok (.istore 5, 2) := by decide +kernel
theorem dX6_readChange_55 : decode cX6_readChange 55 = .ok (.iload 4, 2) := by decide +kernel
theorem dX6_readChange_57 : decode cX6_readChange 57 = .ok (.iconst 1, 1) := by decide +kernel
theorem dX6_readChange_58 : decode cX6_readChange 58 = .ok (.iadd, 1) := by decide +kernel
theorem dX6_readChange_59 : decode cX6_readChange 59 = .ok (.istore 6, 2) := by decide +kernel
theorem dX6_readChange_61 : decode cX6_readChange 61 = .ok (.aload_n 0, 1) := by decide +kernel
theorem dX6_readChange_62 : decode cX6_readChange 62 = .ok (.iload 4, 2) := by decide +kernel
theorem dX6_readChange_64 : decode cX6_readChange 64 = .ok (.invokevirtual 45, 3) := by decide +kernel
theorem dX6_readChange_67 : decode cX6_readChange 67 = .ok (.bipush 61, 2) := by decide +kernel
theorem dX6_readChange_69 : decode cX6_readChange 69 = .ok (.if_icmp .ne 86, 3) := by decide +kernel
theorem dX6_readChange_72 : decode cX6_readChange 72 = .ok (.iload 6, 2) := by decide +kernel
theorem dX6_readChange_74 : decode cX6_readChange 74 = .ok (.iload_n 3, 1) := by decide +kernel
theorem dX6_readChange_75 : decode cX6_readChange 75 = .ok (.iconst 1, 1) := by decide +kernel
theorem dX6_readChange_76 : decode cX6_readChange 76 = .ok (.if_icmp .ne 16, 3) := by decide +kernel
theorem dX6_readChange_79 : decode cX6_readChange 79 = .ok (.aload_n 0, 1) := by decide +kernel
theorem dX6_readChange_80 : decode cX6_readChange 80 = .ok (.iload 6, 2) := by decide +kernel
theorem dX6_readChange_82 : decode cX6_readChange 82 = .ok (.bipush 49, 2) := by decide +kernel
theorem dX6_readChange_84 : decode cX6_readChange 84 = .ok (.bipush 52, 2) := by decide +kernel
theorem dX6_readChange_86 : decode cX6_readChange 86 = .ok (.invokevirtual 41, 3) := by decide +kernel
theorem dX6_readChange_89 : decode cX6_readChange 89 = .ok (.goto 13, 3) := by decide +kernel
theorem dX6_readChange_92 : decode cX6_readChange 92 = .ok (.aload_n 0, 1) := by decide +kernel
theorem dX6_readChange_93 : decode cX6_readChange 93 = .ok (.iload 6, 2) := by decide +kernel
theorem dX6_readChange_95 : decode cX6_readChange 95 = .ok (.bipush 48, 2) := by decide +kernel
theorem dX6_readChange_97 : decode cX6_readChange 97 = .ok (.bipush 57, 2) := by decide +kernel
theorem dX6_readChange_99 : decode cX6_readChange 99 = .ok (.invokevirtual 41, 3) := by decide +kernel
theorem dX6_readChange_102 : decode cX6_readChange 102 = .ok (.iadd, 1) := by decide +kernel
theorem dX6_readChange_103 : decode cX6_readChange 103 = .ok (.istore 6, 2) := by decide +kernel
theorem dX6_readChange_105 : decode cX6_readChange 105 = .ok (.iload_n 3, 1) := by decide +kernel
theorem dX6_readChange_106 : decode cX6_readChange 106 = .ok (.iconst 1, 1) := by decide +kernel
theorem dX6_readChange_107 : decode cX6_readChange 107 = .ok (.if_icmp .ne 16, 3) := by decide +kernel
theorem dX6_readChange_110 : decode cX6_readChange 110 = .ok (.aload_n 0, 1) := by decide +kernel
theorem dX6_readChange_111 : decode cX6_readChange 111 = .ok (.iload 4, 2) := by decide +kernel
theorem dX6_readChange_113 : decode cX6_readChange 113 = .ok (.iconst 1, 1) := by decide +kernel
theorem dX6_readChange_114 : decode cX6_readChange 114 = .ok (.iadd, 1) := by decide +kernel
theorem dX6_readChange_115 : decode cX6_readChange 115 = .ok (.iload 6, 2) := by decide +kernel
theorem dX6_readChange_117 : decode cX6_readChange 117 = .ok (.invokevirtual 54, 3) := by decide +kernel
theorem dX6_readChange_120 : decode cX6_readChange 120 = .ok (.goto 13, 3) := by decide +kernel
theorem dX6_readChange_123 : decode cX6_readChange 123 = .ok (.aload_n 0, 1) := by decide +kernel
theorem dX6_readChange_124 : decode cX6_readChange 124 = .ok (.iload 4, 2) := by decide +kernel
theorem dX6_readChange_126 : decode cX6_readChange 126 = .ok (.iconst 1, 1) := by decide +kernel
theorem dX6_readChange_127 : decode cX6_readChange 127 = .ok (.iadd, 1) := by decide +kernel
theorem dX6_readChange_128 : decode cX6_readChange 128 = .ok (.iload 6, 2) := by decide +kernel
theorem dX6_readChange_130 : decode cX6_readChange 130 = .ok (.invokevirtual 58, 3) := by decide +kernel
theorem dX6_readChange_133 : decode cX6_readChange 133 = .ok (.istore 5, 2) := by decide +kernel
theorem dX6_readChange_135 : decode cX6_readChange 135 = .ok (.iload 6, 2) := by decide +kernel
theorem dX6_readChange_137 : decode cX6_readChange 137 = .ok (.iload 4, 2) := by decide +kernel
theorem dX6_readChange_139 : decode cX6_readChange 139 = .ok (.iconst 1, 1) := by decide +kernel
theorem dX6_readChange_140 : decode cX6_readChange 140 = .ok (.iadd, 1) := by decide +kernel
theorem dX6_readChange_141 : decode cX6_readChange 141 = .ok (.if_icmp .eq 12, 3) := by decide +kernel
theorem dX6_readChange_144 : decode cX6_readChange 144 = .ok (.iload_n 3, 1) := by decide +kernel
theorem dX6_readChange_145 : decode cX6_readChange 145 = .ok (.iload 5, 2) := by decide +kernel
theorem dX6_readChange_147 : decode cX6_readChange 147 = .ok (.invokestatic 61, 3) := by decide +kernel
theorem dX6_readChange_150 : decode cX6_readChange 150 = .ok (.ifCond .ne 18, 3) := by decide +kernel
theorem dX6_readChange_153 : decode cX6_readChange 153 = .ok (.iconst (-1), 1) := by decide +kernel
theorem dX6_readChange_154 : decode cX6_readChange 154 = .ok (.ireturn, 1) := by decide +kernel
theorem dX6_readChange_155 : decode cX6_readChange 155 = .ok (.aload_n 0, 1) := by decide +kernel
theorem dX6_readChange_156 : decode cX6_readChange 156 = .ok (.iload 4, 2) := by decide +kernel
theorem dX6_readChange_158 : decode cX6_readChange 158 = .ok (.invokevirtual 45, 3) := by decide +kernel
theorem dX6_readChange_161 : decode cX6_readChange 161 = .ok (.bipush 45, 2) := by decide +kernel
theorem dX6_readChange_163 : decode cX6_readChange 163 = .ok (.if_icmp .eq 5, 3) := by decide +kernel
theorem dX6_readChange_166 : decode cX6_readChange 166 = .ok (.iconst (-1), 1) := by decide +kernel
theorem dX6_readChange_167 : decode cX6_readChange 167 = .ok (.ireturn, 1) := by decide +kernel
theorem dX6_readChange_168 : decode cX6_readChange 168 = .ok (.aload_n 0, 1) := by decide +kernel
theorem dX6_readChange_169 : decode cX6_readChange 169 = .ok (.iload 6, 2) := by decide +kernel
theorem dX6_readChange_171 : decode cX6_readChange 171 = .ok (.invokevirtual 45, 3) := by decide +kernel
theorem dX6_readChange_174 : decode cX6_readChange 174 = .ok (.bipush 59, 2) := by decide +kernel
theorem dX6_readChange_176 : decode cX6_readChange 176 = .ok (.if_icmp .ne 12, 3) := by decide +kernel
theorem dX6_readChange_179 : decode cX6_readChange 179 = .ok (.aload_n 0, 1) := by decide +kernel
theorem dX6_readChange_180 : decode cX6_readChange 180 = .ok (.getfield 28, 3) := by decide +kernel
theorem dX6_readChange_183 : decode cX6_readChange 183 = .ok (.bipush 12, 2) := by decide +kernel
theorem dX6_readChange_185 : decode cX6_readChange 185 = .ok (.if_icmp .lt 5, 3) := by decide +kernel
theorem dX6_readChange_188 : decode cX6_readChange 188 = .ok (.iconst (-1), 1) := by decide +kernel
theorem dX6_readChange_189 : decode cX6_readChange 189 = .ok (.ireturn, 1) := by decide +kernel
theorem dX6_readChange_190 : decode cX6_readChange 190 = .ok (.aload_n 0, 1) := by decide +kernel
theorem dX6_readChange_191 : decode cX6_readChange 191 = .ok (.getfield 19, 3) := by decide +kernel
theorem dX6_readChange_194 : decode cX6_readChange 194 = .ok (.aload_n 0, 1) := by decide +kernel
theorem dX6_readChange_195 : decode cX6_readChange 195 = .ok (.getfield 28, 3) := by decide +kernel
theorem dX6_readChange_198 : decode cX6_readChange 198 = .ok (.aload_n 0, 1) := by decide +kernel
theorem dX6_readChange_199 : decode cX6_readChange 199 = .ok (.iload_n 1, 1) := by decide +kernel
theorem dX6_readChange_200 : decode cX6_readChange 200 = .ok (.iload_n 2, 1) := by decide +kernel
theorem dX6_readChange_201 : decode cX6_readChange 201 = .ok (.invokevirtual 54, 3) := by decide +kernel
theorem dX6_readChange_204 : decode cX6_readChange 204 = .ok (.iastore, 1) := by decide +kernel
theorem dX6_readChange_205 : decode cX6_readChange 205 = .ok (.aload_n 0, 1) := by decide +kernel
theorem dX6_readChange_206 : decode cX6_readChange 206 = .ok (.getfield 22, 3) := by decide +kernel
theorem dX6_readChange_209 : decode cX6_readChange 209 = .ok (.aload_n 0, 1) := by decide +kernel
theorem dX6_readChange_210 : decode cX6_readChange 210 = .ok (.getfield 28, 3) := by decide +kernel
theorem dX6_readChange_213 : decode cX6_readChange 213 = .ok (.iload_n 3, 1) := by decide +kernel
theorem dX6_readChange_214 : decode cX6_readChange 214 = .ok (.iastore, 1) := by decide +kernel
theorem dX6_readChange_215 : decode cX6_readChange 215 = .ok (.aload_n 0, 1) := by decide +kernel
theorem dX6_readChange_216 : decode cX6_readChange 216 = .ok (.getfield 25, 3) := by decide +kernel
theorem dX6_readChange_219 : decode cX6_readChange 219 = .ok (.aload_n 0, 1) := by decide +kernel
theorem dX6_readChange_220 : decode cX6_readChange 220 = .ok (.getfield 28, 3) := by decide +kernel
theorem dX6_readChange_223 : decode cX6_readChange 223 = .ok (.iload 5, 2) := by decide +kernel
theorem dX6_readChange_225 : decode cX6_readChange 225 = .ok (.iastore, 1) := by decide +kernel
theorem dX6_readChange_226 : decode cX6_readChange 226 = .ok (.aload_n 0, 1) := by decide +kernel
theorem dX6_readChange_227 : decode cX6_readChange 227 = .ok (.dup, 1) := by decide +kernel
theorem dX6_readChange_228 : decode cX6_readChange 228 = .ok (.getfield 28, 3) := by decide +kernel
theorem dX6_readChange_231 : decode cX6_readChange 231 = .ok (.iconst 1, 1) := by decide +kernel
theorem dX6_readChange_232 : decode cX6_readChange 232 = .ok (.iadd, 1) := by decide +kernel
theorem dX6_readChange_233 : decode cX6_readChange 233 = .ok (.putfield 28, 3) := by decide +kernel
theorem dX6_readChange_236 : decode cX6_readChange 236 = .ok (.iload 6, 2) := by decide +kernel
theorem dX6_readChange_238 : decode cX6_readChange 238 = .ok (.iconst 1, 1) := by decide +kernel
theorem dX6_readChange_239 : decode cX6_readChange 239 = .ok (.iadd, 1) := by decide +kernel
theorem dX6_readChange_240 : decode cX6_readChange 240 = .ok (.ireturn, 1) := by decide +kernel
theorem dX6_characterAt_0 : decode cX6_characterAt 0 = .ok (.iload_n 1, 1) := by decide +kernel
theorem dX6_characterAt_1 : decode cX6_characterAt 1 = .ok (.ifCond .lt 20, 3) := by decide +kernel
theorem dX6_characterAt_4 : decode cX6_characterAt 4 = .ok (.iload_n 1, 1) := by decide +kernel
theorem dX6_characterAt_5 : decode cX6_characterAt 5 = .ok (.aload_n 0, 1) := by decide +kernel
theorem dX6_characterAt_6 : decode cX6_characterAt 6 = .ok (.getfield 15, 3) := by decide +kernel
theorem dX6_characterAt_9 : decode cX6_characterAt 9 = .ok (.if_icmp .ge 12, 3) := by decide +kernel
theorem dX6_characterAt_12 : decode cX6_characterAt 12 = .ok (.aload_n 0, 1) := by decide +kernel
theorem dX6_characterAt_13 : decode cX6_characterAt 13 = .ok (.getfield 11, 3) := by decide +kernel
theorem dX6_characterAt_16 : decode cX6_characterAt 16 = .ok (.iload_n 1, 1) := by decide +kernel
theorem dX6_characterAt_17 : decode cX6_characterAt 17 = .ok (.iaload, 1) := by decide +kernel
theorem dX6_characterAt_18 : decode cX6_characterAt 18 = .ok (.goto 4, 3) := by decide +kernel
theorem dX6_characterAt_21 : decode cX6_characterAt 21 = .ok (.iconst (-1), 1) := by decide +kernel
theorem dX6_characterAt_22 : decode cX6_characterAt 22 = .ok (.ireturn, 1) := by decide +kernel
theorem dX6_digits_0 : decode cX6_digits 0 = .ok (.iconst 0, 1) := by decide +kernel
theorem dX6_digits_1 : decode cX6_digits 1 = .ok (.istore 4, 2) := by decide +kernel
theorem dX6_digits_3 : decode cX6_digits 3 = .ok (.iload 4, 2) := by decide +kernel
theorem dX6_digits_5 : decode cX6_digits 5 = .ok (.iconst 3, 1) := by decide +kernel
theorem dX6_digits_6 : decode cX6_digits 6 = .ok (.if_icmp .ge 33, 3) := by decide +kernel
theorem dX6_digits_9 : decode cX6_digits 9 = .ok (.aload_n 0, 1) := by decide +kernel
theorem dX6_digits_10 : decode cX6_digits 10 = .ok (.iload_n 1, 1) := by decide +kernel
theorem dX6_digits_11 : decode cX6_digits 11 = .ok (.iload 4, 2) := by decide +kernel
theorem dX6_digits_13 : decode cX6_digits 13 = .ok (.iadd, 1) := by decide +kernel
theorem dX6_digits_14 : decode cX6_digits 14 = .ok (.invokevirtual 45, 3) := by decide +kernel
theorem dX6_digits_17 : decode cX6_digits 17 = .ok (.iload_n 2, 1) := by decide +kernel
theorem dX6_digits_18 : decode cX6_digits 18 = .ok (.if_icmp .lt 21, 3) := by decide +kernel
theorem dX6_digits_21 : decode cX6_digits 21 = .ok (.aload_n 0, 1) := by decide +kernel
theorem dX6_digits_22 : decode cX6_digits 22 = .ok (.iload_n 1, 1) := by decide +kernel
theorem dX6_digits_23 : decode cX6_digits 23 = .ok (.iload 4, 2) := by decide +kernel
theorem dX6_digits_25 : decode cX6_digits 25 = .ok (.iadd, 1) := by decide +kernel
theorem dX6_digits_26 : decode cX6_digits 26 = .ok (.invokevirtual 45, 3) := by decide +kernel
theorem dX6_digits_29 : decode cX6_digits 29 = .ok (.iload_n 3, 1) := by decide +kernel
theorem dX6_digits_30 : decode cX6_digits 30 = .ok (.if_icmp .gt 9, 3) := by decide +kernel
theorem dX6_digits_33 : decode cX6_digits 33 = .ok (.iinc 4 1, 3) := by decide +kernel
theorem dX6_digits_36 : decode cX6_digits 36 = .ok (.goto (-33), 3) := by decide +kernel
theorem dX6_digits_39 : decode cX6_digits 39 = .ok (.iload 4, 2) := by decide +kernel
theorem dX6_digits_41 : decode cX6_digits 41 = .ok (.ireturn, 1) := by decide +kernel
theorem dX6_nameIn_0 : decode cX6_nameIn 0 = .ok (.iconst 0, 1) := by decide +kernel
theorem dX6_nameIn_1 : decode cX6_nameIn 1 = .ok (.istore_n 3, 1) := by decide +kernel
theorem dX6_nameIn_2 : decode cX6_nameIn 2 = .ok (.iload_n 2, 1) := by decide +kernel
theorem dX6_nameIn_3 : decode cX6_nameIn 3 = .ok (.iconst 1, 1) := by decide +kernel
theorem dX6_nameIn_4 : decode cX6_nameIn 4 = .ok (.isub, 1) := by decide +kernel
theorem dX6_nameIn_5 : decode cX6_nameIn 5 = .ok (.istore 4, 2) := by decide +kernel
theorem dX6_nameIn_7 : decode cX6_nameIn 7 = .ok (.iload 4, 2) := by decide +kernel
theorem dX6_nameIn_9 : decode cX6_nameIn 9 = .ok (.iload_n 1, 1) := by decide +kernel
theorem dX6_nameIn_10 : decode cX6_nameIn 10 = .ok (.if_icmp .lt 23, 3) := by decide +kernel
theorem dX6_nameIn_13 : decode cX6_nameIn 13 = .ok (.iload_n 3, 1) := by decide +kernel
theorem dX6_nameIn_14 : decode cX6_nameIn 14 = .ok (.iconst 5, 1) := by decide +kernel
theorem dX6_nameIn_15 : decode cX6_nameIn 15 = .ok (.imul, 1) := by decide +kernel
theorem dX6_nameIn_16 : decode cX6_nameIn 16 = .ok (.aload_n 0, 1) := by decide +kernel
theorem dX6_nameIn_17 : decode cX6_nameIn 17 = .ok (.iload 4, 2) := by decide +kernel
theorem dX6_nameIn_19 : decode cX6_nameIn 19 = .ok (.invokevirtual 45, 3) := by decide +kernel
theorem dX6_nameIn_22 : decode cX6_nameIn 22 = .ok (.iadd, 1) := by decide +kernel
theorem dX6_nameIn_23 : decode cX6_nameIn 23 = .ok (.bipush 48, 2) := by decide +kernel
theorem dX6_nameIn_25 : decode cX6_nameIn 25 = .ok (.isub, 1) := by decide +kernel
theorem dX6_nameIn_26 : decode cX6_nameIn 26 = .ok (.istore_n 3, 1) := by decide +kernel
theorem dX6_nameIn_27 : decode cX6_nameIn 27 = .ok (.iinc 4 (-1), 3) := by decide +kernel
theorem dX6_nameIn_30 : decode cX6_nameIn 30 = .ok (.goto (-23), 3) := by decide +kernel
theorem dX6_nameIn_33 : decode cX6_nameIn 33 = .ok (.iload_n 3, 1) := by decide +kernel
theorem dX6_nameIn_34 : decode cX6_nameIn 34 = .ok (.ireturn, 1) := by decide +kernel
theorem dX6_numberIn_0 : decode cX6_numberIn 0 = .ok (.iconst 0, 1) := by decide +kernel
theorem dX6_numberIn_1 : decode cX6_numberIn 1 = .ok (.istore_n 3, 1) := by decide +kernel
theorem dX6_numberIn_2 : decode cX6_numberIn 2 = .ok (.iload_n 1, 1) := by decide +kernel
theorem dX6_numberIn_3 : decode cX6_numberIn 3 = .ok (.istore 4, 2) := by decide +kernel
theorem dX6_numberIn_5 : decode cX6_numberIn 5 = .ok (.iload 4, 2) := by decide +kernel
theorem dX6_numberIn_7 : decode cX6_numberIn 7 = .ok (.iload_n 2, 1) := by decide +kernel
theorem dX6_numberIn_8 : decode cX6_numberIn 8 = .ok (.if_icmp .ge 24, 3) := by decide +kernel
theorem dX6_numberIn_11 : decode cX6_numberIn 11 = .ok (.iload_n 3, 1) := by decide +kernel
theorem dX6_numberIn_12 : decode cX6_numberIn 12 = .ok (.bipush 10, 2) := by decide +kernel
theorem dX6_numberIn_14 : decode cX6_numberIn 14 = .ok (.imul, 1) := by decide +kernel
theorem dX6_numberIn_15 : decode cX6_numberIn 15 = .ok (.aload_n 0, 1) := by decide +kernel
theorem dX6_numberIn_16 : decode cX6_numberIn 16 = .ok (.iload 4, 2) := by decide +kernel
theorem dX6_numberIn_18 : decode cX6_numberIn 18 = .ok (.invokevirtual 45, 3) := by decide +kernel
theorem dX6_numberIn_21 : decode cX6_numberIn 21 = .ok (.iadd, 1) := by decide +kernel
theorem dX6_numberIn_22 : decode cX6_numberIn 22 = .ok (.bipush 48, 2) := by decide +kernel
theorem dX6_numberIn_24 : decode cX6_numberIn 24 = .ok (.isub, 1) := by decide +kernel
theorem dX6_numberIn_25 : decode cX6_numberIn 25 = .ok (.istore_n 3, 1) := by decide +kernel
theorem dX6_numberIn_26 : decode cX6_numberIn 26 = .ok (.iinc 4 1, 3) := by decide +kernel
theorem dX6_numberIn_29 : decode cX6_numberIn 29 = .ok (.goto (-24), 3) := by decide +kernel
theorem dX6_numberIn_32 : decode cX6_numberIn 32 = .ok (.iload_n 3, 1) := by decide +kernel
theorem dX6_numberIn_33 : decode cX6_numberIn 33 = .ok (.ireturn, 1) := by decide +kernel
