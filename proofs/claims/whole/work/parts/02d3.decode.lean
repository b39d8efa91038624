theorem dX10_saidAll_8 : decode cX10_saidAll 8 = .ok (.iconst 0, 1) := by decide +kernel
theorem dX10_saidAll_9 : decode cX10_saidAll 9 = .ok (.istore 4, 2) := by decide +kernel
theorem dX10_saidAll_11 : decode cX10_saidAll 11 = .ok (.iload 4, 2) := by decide +kernel
theorem dX10_saidAll_13 : decode cX10_saidAll 13 = .ok (.aload_n 0, 1) := by decide +kernel
theorem dX10_saidAll_14 : decode cX10_saidAll 14 = .ok (.getfield 31, 3) := by decide +kernel
theorem dX10_saidAll_17 : decode cX10_saidAll 17 = .ok (.iconst 1, 1) := by decide +kernel
theorem dX10_saidAll_18 : decode cX10_saidAll 18 = .ok (.iaload, 1) := by decide +kernel
theorem dX10_saidAll_19 : decode cX10_saidAll 19 = .ok (.if_icmp .ge 54, 3) := by decide +kernel
theorem dX10_saidAll_22 : decode cX10_saidAll 22 = .ok (.iload_n 3, 1) := by decide +kernel
theorem dX10_saidAll_23 : decode cX10_saidAll 23 = .ok (.ifCond .eq 50, 3) := by decide +kernel
theorem dX10_saidAll_26 : decode cX10_saidAll 26 = .ok (.iload_n 1, 1) := by decide +kernel
theorem dX10_saidAll_27 : decode cX10_saidAll 27 = .ok (.iload 4, 2) := by decide +kernel
theorem dX10_saidAll_29 : decode cX10_saidAll 29 = .ok (.invokestatic 165, 3) := by decide +kernel
theorem dX10_saidAll_32 : decode cX10_saidAll 32 = .ok (.ifCond .eq 35, 3) := by decide +kernel
theorem dX10_saidAll_35 : decode cX10_saidAll 35 = .ok (.aload_n 0, 1) := by decide +kernel
theorem dX10_saidAll_36 : decode cX10_saidAll 36 = .ok (.aload_n 0, 1) := by decide +kernel
theorem dX10_saidAll_37 : decode cX10_saidAll 37 = .ok (.getfield 37, 3) := by decide +kernel
theorem dX10_saidAll_40 : decode cX10_saidAll 40 = .ok (.iload 4, 2) := by decide +kernel
theorem dX10_saidAll_42 : decode cX10_saidAll 42 = .ok (.invokevirtual 208, 3) := by decide +kernel
theorem dX10_saidAll_45 : decode cX10_saidAll 45 = .ok (.istore_n 3, 1) := by decide +kernel
theorem dX10_saidAll_46 : decode cX10_saidAll 46 = .ok (.iload_n 2, 1) := by decide +kernel
theorem dX10_saidAll_47 : decode cX10_saidAll 47 = .ok (.iload_n 3, 1) := by decide +kernel
theorem dX10_saidAll_48 : decode cX10_saidAll 48 = .ok (.ifCond .eq 16, 3) := by decide +kernel
theorem dX10_saidAll_51 : decode cX10_saidAll 51 = .ok (.aload_n 0, 1) := by decide +kernel
theorem dX10_saidAll_52 : decode cX10_saidAll 52 = .ok (.aload_n 0, 1) := by decide +kernel
theorem dX10_saidAll_53 : decode cX10_saidAll 53 = .ok (.getfield 37, 3) := by decide +kernel
theorem dX10_saidAll_56 : decode cX10_saidAll 56 = .ok (.iload 4, 2) := by decide +kernel
theorem dX10_saidAll_58 : decode cX10_saidAll 58 = .ok (.invokevirtual 212, 3) := by decide +kernel
theorem dX10_saidAll_61 : decode cX10_saidAll 61 = .ok (.goto 4, 3) := by decide +kernel
theorem dX10_saidAll_64 : decode cX10_saidAll 64 = .ok (.iconst 0, 1) := by decide +kernel
theorem dX10_saidAll_65 : decode cX10_saidAll 65 = .ok (.iadd, 1) := by decide +kernel
theorem dX10_saidAll_66 : decode cX10_saidAll 66 = .ok (.istore_n 2, 1) := by decide +kernel
theorem dX10_saidAll_67 : decode cX10_saidAll 67 = .ok (.iinc 4 1, 3) := by decide +kernel
theorem dX10_saidAll_70 : decode cX10_saidAll 70 = .ok (.goto (-59), 3) := by decide +kernel
theorem dX10_saidAll_73 : decode cX10_saidAll 73 = .ok (.iload_n 3, 1) := by decide +kernel
theorem dX10_saidAll_74 : decode cX10_saidAll 74 = .ok (.ifCond .eq 7, 3) := by decide +kernel
theorem dX10_saidAll_77 : decode cX10_saidAll 77 = .ok (.iload_n 2, 1) := by decide +kernel
theorem dX10_saidAll_78 : decode cX10_saidAll 78 = .ok (.goto 4, 3) := by decide +kernel
theorem dX10_saidAll_81 : decode cX10_saidAll 81 = .ok (.iconst (-1), 1) := by decide +kernel
theorem dX10_saidAll_82 : decode cX10_saidAll 82 = .ok (.ireturn, 1) := by decide +kernel
theorem dX10_most_0 : decode cX10_most 0 = .ok (.aload_n 0, 1) := by decide +kernel
theorem dX10_most_1 : decode cX10_most 1 = .ok (.iload_n 1, 1) := by decide +kernel
theorem dX10_most_2 : decode cX10_most 2 = .ok (.iconst 0, 1) := by decide +kernel
theorem dX10_most_3 : decode cX10_most 3 = .ok (.iconst 2, 1) := by decide +kernel
theorem dX10_most_4 : decode cX10_most 4 = .ok (.invokestatic 70, 3) := by decide +kernel
theorem dX10_most_7 : decode cX10_most 7 = .ok (.invokevirtual 194, 3) := by decide +kernel
theorem dX10_most_10 : decode cX10_most 10 = .ok (.istore_n 2, 1) := by decide +kernel
theorem dX10_most_11 : decode cX10_most 11 = .ok (.iload_n 2, 1) := by decide +kernel
theorem dX10_most_12 : decode cX10_most 12 = .ok (.ifCond .ge 5, 3) := by decide +kernel
theorem dX10_most_15 : decode cX10_most 15 = .ok (.iload_n 2, 1) := by decide +kernel
theorem dX10_most_16 : decode cX10_most 16 = .ok (.ireturn, 1) := by decide +kernel
theorem dX10_most_17 : decode cX10_most 17 = .ok (.iconst 0, 1) := by decide +kernel
theorem dX10_most_18 : decode cX10_most 18 = .ok (.istore_n 3, 1) := by decide +kernel
theorem dX10_most_19 : decode cX10_most 19 = .ok (.iconst 0, 1) := by decide +kernel
theorem dX10_most_20 : decode cX10_most 20 = .ok (.istore 4, 2) := by decide +kernel
theorem dX10_most_22 : decode cX10_most 22 = .ok (.iconst 1, 1) := by decide +kernel
theorem dX10_most_23 : decode cX10_most 23 = .ok (.istore 5, 2) := by decide +kernel
theorem dX10_most_25 : decode cX10_most 25 = .ok (.iload 5, 2) := by decide +kernel
theorem dX10_most_27 : decode cX10_most 27 = .ok (.iconst 1, 1) := by decide +kernel
theorem dX10_most_28 : decode cX10_most 28 = .ok (.aload_n 0, 1) := by decide +kernel
theorem dX10_most_29 : decode cX10_most 29 = .ok (.getfield 31, 3) := by decide +kernel
theorem dX10_most_32 : decode cX10_most 32 = .ok (.iconst 1, 1) := by decide +kernel
theorem dX10_most_33 : decode cX10_most 33 = .ok (.iaload, 1) := by decide +kernel
theorem dX10_most_34 : decode cX10_most 34 = .ok (.ishl, 1) := by decide +kernel
theorem dX10_most_35 : decode cX10_most 35 = .ok (.if_icmp .ge 86, 3) := by decide +kernel
theorem dX10_most_38 : decode cX10_most 38 = .ok (.aload_n 0, 1) := by decide +kernel
theorem dX10_most_39 : decode cX10_most 39 = .ok (.iload 5, 2) := by decide +kernel
theorem dX10_most_41 : decode cX10_most 41 = .ok (.invokevirtual 231, 3) := by decide +kernel
theorem dX10_most_44 : decode cX10_most 44 = .ok (.istore 6, 2) := by decide +kernel
theorem dX10_most_46 : decode cX10_most 46 = .ok (.iload 6, 2) := by decide +kernel
theorem dX10_most_48 : decode cX10_most 48 = .ok (.ifCond .lt 38, 3) := by decide +kernel
theorem dX10_most_51 : decode cX10_most 51 = .ok (.iload 5, 2) := by decide +kernel
theorem dX10_most_53 : decode cX10_most 53 = .ok (.invokestatic 234, 3) := by decide +kernel
theorem dX10_most_56 : decode cX10_most 56 = .ok (.iload_n 3, 1) := by decide +kernel
theorem dX10_most_57 : decode cX10_most 57 = .ok (.invokestatic 234, 3) := by decide +kernel
theorem dX10_most_60 : decode cX10_most 60 = .ok (.if_icmp .gt 22, 3) := by decide +kernel
theorem dX10_most_63 : decode cX10_most 63 = .ok (.iload 5, 2) := by decide +kernel
theorem dX10_most_65 : decode cX10_most 65 = .ok (.invokestatic 234, 3) := by decide +kernel
theorem dX10_most_68 : decode cX10_most 68 = .ok (.iload_n 3, 1) := by decide +kernel
theorem dX10_most_69 : decode cX10_most 69 = .ok (.invokestatic 234, 3) := by decide +kernel
theorem dX10_most_72 : decode cX10_most 72 = .ok (.if_icmp .ne 14, 3) := by decide +kernel
theorem dX10_most_75 : decode cX10_most 75 = .ok (.iload 6, 2) := by decide +kernel
theorem dX10_most_77 : decode cX10_most 77 = .ok (.iload 4, 2) := by decide +kernel
theorem dX10_most_79 : decode cX10_most 79 = .ok (.if_icmp .ge 7, 3) := by decide +kernel
theorem dX10_most_82 : decode cX10_most 82 = .ok (.iconst 1, 1) := by decide +kernel
theorem dX10_most_83 : decode cX10_most 83 = .ok (.goto 4, 3) := by decide +kernel
theorem dX10_most_86 : decode cX10_most 86 = .ok (.iconst 0, 1) := by decide +kernel
theorem dX10_most_87 : decode cX10_most 87 = .ok (.istore 7, 2) := by decide +kernel
theorem dX10_most_89 : decode cX10_most 89 = .ok (.iload 7, 2) := by decide +kernel
theorem dX10_most_91 : decode cX10_most 91 = .ok (.ifCond .eq 8, 3) := by decide +kernel
theorem dX10_most_94 : decode cX10_most 94 = .ok (.iload 5, 2) := by decide +kernel
theorem dX10_most_96 : decode cX10_most 96 = .ok (.goto 4, 3) := by decide +kernel
theorem dX10_most_99 : decode cX10_most 99 = .ok (.iload_n 3, 1) := by decide +kernel
theorem dX10_most_100 : decode cX10_most 100 = .ok (.istore_n 3, 1) := by decide +kernel
theorem dX10_most_101 : decode cX10_most 101 = .ok (.iload 7, 2) := by decide +kernel
theorem dX10_most_103 : decode cX10_most 103 = .ok (.ifCond .eq 8, 3) := by decide +kernel
theorem dX10_most_106 : decode cX10_most 106 = .ok (.iload 6, 2) := by decide +kernel
theorem dX10_most_108 : decode cX10_most 108 = .ok (.goto 5, 3) := by decide +kernel
theorem dX10_most_111 : decode cX10_most 111 = .ok (.iload 4, 2) := by decide +kernel
theorem dX10_most_113 : decode cX10_most 113 = .ok (.istore 4, 2) := by decide +kernel
theorem dX10_most_115 : decode cX10_most 115 = .ok (.iinc 5 1, 3) := by decide +kernel
theorem dX10_most_118 : decode cX10_most 118 = .ok (.goto (-93), 3) := by decide +kernel
theorem dX10_most_121 : decode cX10_most 121 = .ok (.aload_n 0, 1) := by decide +kernel
theorem dX10_most_122 : decode cX10_most 122 = .ok (.iload_n 3, 1) := by decide +kernel
theorem dX10_most_123 : decode cX10_most 123 = .ok (.invokevirtual 231, 3) := by decide +kernel
theorem dX10_most_126 : decode cX10_most 126 = .ok (.pop, 1) := by decide +kernel
theorem dX10_most_127 : decode cX10_most 127 = .ok (.aload_n 0, 1) := by decide +kernel
theorem dX10_most_128 : decode cX10_most 128 = .ok (.invokevirtual 176, 3) := by decide +kernel
theorem dX10_most_131 : decode cX10_most 131 = .ok (.istore 5, 2) := by decide +kernel
theorem dX10_most_133 : decode cX10_most 133 = .ok (.iconst 0, 1) := by decide +kernel
theorem dX10_most_134 : decode cX10_most 134 = .ok (.istore 6, 2) := by decide +kernel
theorem dX10_most_136 : decode cX10_most 136 = .ok (.iload 6, 2) := by decide +kernel
theorem dX10_most_138 : decode cX10_most 138 = .ok (.aload_n 0, 1) := by decide +kernel
theorem dX10_most_139 : decode cX10_most 139 = .ok (.getfield 31, 3) := by decide +kernel
theorem dX10_most_142 : decode cX10_most 142 = .ok (.iconst 1, 1) := by decide +kernel
theorem dX10_most_143 : decode cX10_most 143 = .ok (.iaload, 1) := by decide +kernel
theorem dX10_most_144 : decode cX10_most 144 = .ok (.if_icmp .ge 40, 3) := by decide +kernel
theorem dX10_most_147 : decode cX10_most 147 = .ok (.iload 5, 2) := by decide +kernel
theorem dX10_most_149 : decode cX10_most 149 = .ok (.iload_n 3, 1) := by decide +kernel
theorem dX10_most_150 : decode cX10_most 150 = .ok (.iload 6, 2) := by decide +kernel
theorem dX10_most_152 : decode cX10_most 152 = .ok (.invokestatic 165, 3) := by decide +kernel
theorem dX10_most_155 : decode cX10_most 155 = .ok (.ifCond .eq 16, 3) := by decide +kernel
theorem dX10_most_158 : decode cX10_most 158 = .ok (.aload_n 0, 1) := by decide +kernel
theorem dX10_most_159 : decode cX10_most 159 = .ok (.aload_n 0, 1) := by decide +kernel
theorem dX10_most_160 : decode cX10_most 160 = .ok (.getfield 37, 3) := by decide +kernel
theorem dX10_most_163 : decode cX10_most 163 = .ok (.iload 6, 2) := by decide +kernel
theorem dX10_most_165 : decode cX10_most 165 = .ok (.invokevirtual 218, 3) := by decide +kernel
theorem dX10_most_168 : decode cX10_most 168 = .ok (.goto 7, 3) := by decide +kernel
theorem dX10_most_171 : decode cX10_most 171 = .ok (.aload_n 0, 1) := by decide +kernel
theorem dX10_most_172 : decode cX10_most 172 = .ok (.invokevirtual 176, 3) := by decide +kernel
theorem dX10_most_175 : decode cX10_most 175 = .ok (.iand, 1) := by decide +kernel
theorem dX10_most_176 : decode cX10_most 176 = .ok (.istore 5, 2) := by decide +kernel
theorem dX10_most_178 : decode cX10_most 178 = .ok (.iinc 6 1, 3) := by decide +kernel
theorem dX10_most_181 : decode cX10_most 181 = .ok (.goto (-45), 3) := by decide +kernel
theorem dX10_most_184 : decode cX10_most 184 = .ok (.iload_n 1, 1) := by decide +kernel
theorem dX10_most_185 : decode cX10_most 185 = .ok (.ifCond .ne 7, 3) := by decide +kernel
theorem dX10_most_188 : decode cX10_most 188 = .ok (.iload_n 3, 1) := by decide +kernel
theorem dX10_most_189 : decode cX10_most 189 = .ok (.goto 18, 3) := by decide +kernel
theorem dX10_most_192 : decode cX10_most 192 = .ok (.iload_n 1, 1) := by decide +kernel
theorem dX10_most_193 : decode cX10_most 193 = .ok (.iconst 1, 1) := by decide +kernel
theorem dX10_most_194 : decode cX10_most 194 = .ok (.if_icmp .ne 8, 3) := by decide +kernel
theorem dX10_most_197 : decode cX10_most 197 = .ok (.iload 4, 2) := by decide +kernel
theorem dX10_most_199 : decode cX10_most 199 = .ok (.goto 8, 3) := by decide +kernel
theorem dX10_most_202 : decode cX10_most 202 = .ok (.iload 5, 2) := by decide +kernel
theorem dX10_most_204 : decode cX10_most 204 = .ok (.invokestatic 234, 3) := by decide +kernel
theorem dX10_most_207 : decode cX10_most 207 = .ok (.ireturn, 1) := by decide +kernel
theorem dX10_weeksOf_0 : decode cX10_weeksOf 0 = .ok (.iload_n 1, 1) := by decide +kernel
theorem dX10_weeksOf_1 : decode cX10_weeksOf 1 = .ok (.istore_n 3, 1) := by decide +kernel
theorem dX10_weeksOf_2 : decode cX10_weeksOf 2 = .ok (.aload_n 0, 1) := by decide +kernel
theorem dX10_weeksOf_3 : decode cX10_weeksOf 3 = .ok (.getfield 34, 3) := by decide +kernel
theorem dX10_weeksOf_6 : decode cX10_weeksOf 6 = .ok (.iconst 4, 1) := by decide +kernel
theorem dX10_weeksOf_7 : decode cX10_weeksOf 7 = .ok (.iaload, 1) := by decide +kernel
theorem dX10_weeksOf_8 : decode cX10_weeksOf 8 = .ok (.istore 4, 2) := by decide +kernel
theorem dX10_weeksOf_10 : decode cX10_weeksOf 10 = .ok (.iconst 1, 1) := by decide +kernel
theorem dX10_weeksOf_11 : decode cX10_weeksOf 11 = .ok (.istore 5, 2) := by decide +kernel
theorem dX10_weeksOf_13 : decode cX10_weeksOf 13 = .ok (.iload_n 2, 1) := by decide +kernel
theorem dX10_weeksOf_14 : decode cX10_weeksOf 14 = .ok (.iconst 1, 1) := by decide +kernel
theorem dX10_weeksOf_15 : decode cX10_weeksOf 15 = .ok (.isub, 1) := by decide +kernel
theorem dX10_weeksOf_16 : decode cX10_weeksOf 16 = .ok (.istore 6, 2) := by decide +kernel
theorem dX10_weeksOf_18 : decode cX10_weeksOf 18 = .ok (.iload 6, 2) := by decide +kernel
theorem dX10_weeksOf_20 : decode cX10_weeksOf 20 = .ok (.ifCond .lt 74, 3) := by decide +kernel
theorem dX10_weeksOf_23 : decode cX10_weeksOf 23 = .ok (.aload_n 0, 1) := by decide +kernel
theorem dX10_weeksOf_24 : decode cX10_weeksOf 24 = .ok (.getfield 43, 3) := by decide +kernel
theorem dX10_weeksOf_27 : decode cX10_weeksOf 27 = .ok (.iload 6, 2) := by decide +kernel
theorem dX10_weeksOf_29 : decode cX10_weeksOf 29 = .ok (.iload_n 3, 1) := by decide +kernel
theorem dX10_weeksOf_30 : decode cX10_weeksOf 30 = .ok (.aload_n 0, 1) := by decide +kernel
theorem dX10_weeksOf_31 : decode cX10_weeksOf 31 = .ok (.getfield 31, 3) := by decide +kernel
theorem dX10_weeksOf_34 : decode cX10_weeksOf 34 = .ok (.iconst 1, 1) := by decide +kernel
theorem dX10_weeksOf_35 : decode cX10_weeksOf 35 = .ok (.iaload, 1) := by decide +kernel
theorem dX10_weeksOf_36 : decode cX10_weeksOf 36 = .ok (.irem, 1) := by decide +kernel
theorem dX10_weeksOf_37 : decode cX10_weeksOf 37 = .ok (.iastore, 1) := by decide +kernel
theorem dX10_weeksOf_38 : decode cX10_weeksOf 38 = .ok (.iload_n 3, 1) := by decide +kernel
theorem dX10_weeksOf_39 : decode cX10_weeksOf 39 = .ok (.aload_n 0, 1) := by decide +kernel
theorem dX10_weeksOf_40 : decode cX10_weeksOf 40 = .ok (.getfield 31, 3) := by decide +kernel
theorem dX10_weeksOf_43 : decode cX10_weeksOf 43 = .ok (.iconst 1, 1) := by decide +kernel
theorem dX10_weeksOf_44 : decode cX10_weeksOf 44 = .ok (.iaload, 1) := by decide +kernel
theorem dX10_weeksOf_45 : decode cX10_weeksOf 45 = .ok (.idiv, 1) := by decide +kernel
theorem dX10_weeksOf_46 : decode cX10_weeksOf 46 = .ok (.istore_n 3, 1) := by decide +kernel
theorem dX10_weeksOf_47 : decode cX10_weeksOf 47 = .ok (.iload 5, 2) := by decide +kernel
theorem dX10_weeksOf_49 : decode cX10_weeksOf 49 = .ok (.ifCond .eq 22, 3) := by decide +kernel
theorem dX10_weeksOf_52 : decode cX10_weeksOf 52 = .ok (.iload 4, 2) := by decide +kernel
theorem dX10_weeksOf_54 : decode cX10_weeksOf 54 = .ok (.aload_n 0, 1) := by decide +kernel
theorem dX10_weeksOf_55 : decode cX10_weeksOf 55 = .ok (.getfield 43, 3) := by decide +kernel
theorem dX10_weeksOf_58 : decode cX10_weeksOf 58 = .ok (.iload 6, 2) := by decide +kernel
theorem dX10_weeksOf_60 : decode cX10_weeksOf 60 = .ok (.iaload, 1) := by decide +kernel
theorem dX10_weeksOf_61 : decode cX10_weeksOf 61 = .ok (.invokestatic 165, 3) := by decide +kernel
theorem dX10_weeksOf_64 : decode cX10_weeksOf 64 = .ok (.ifCond .ne 7, 3) := by decide +kernel
theorem dX10_weeksOf_67 : decode cX10_weeksOf 67 = .ok (.iconst 1, 1) := by decide +kernel
theorem dX10_weeksOf_68 : decode cX10_weeksOf 68 = .ok (.goto 4, 3) := by decide +kernel
theorem dX10_weeksOf_71 : decode cX10_weeksOf 71 = .ok (.iconst 0, 1) := by decide +kernel
theorem dX10_weeksOf_72 : decode cX10_weeksOf 72 = .ok (.istore 5, 2) := by decide +kernel
theorem dX10_weeksOf_74 : decode cX10_weeksOf 74 = .ok (.iload 4, 2) := by decide +kernel
theorem dX10_weeksOf_76 : decode cX10_weeksOf 76 = .ok (.iconst 1, 1) := by decide +kernel
theorem dX10_weeksOf_77 : decode cX10_weeksOf 77 = .ok (.aload_n 0, 1) := by decide +kernel
theorem dX10_weeksOf_78 : decode cX10_weeksOf 78 = .ok (.getfield 43, 3) := by decide +kernel
theorem dX10_weeksOf_81 : decode cX10_weeksOf 81 = .ok (.iload 6, 2) := by decide +kernel
theorem dX10_weeksOf_83 : decode cX10_weeksOf 83 = .ok (.iaload, 1) := by decide +kernel
theorem dX10_weeksOf_84 : decode cX10_weeksOf 84 = .ok (.ishl, 1) := by decide +kernel
theorem dX10_weeksOf_85 : decode cX10_weeksOf 85 = .ok (.ior, 1) := by decide +kernel
theorem dX10_weeksOf_86 : decode cX10_weeksOf 86 = .ok (.istore 4, 2) := by decide +kernel
theorem dX10_weeksOf_88 : decode cX10_weeksOf 88 = .ok (.iinc 6 (-1), 3) := by decide +kernel
theorem dX10_weeksOf_91 : decode cX10_weeksOf 91 = .ok (.goto (-73), 3) := by decide +kernel
theorem dX10_weeksOf_94 : decode cX10_weeksOf 94 = .ok (.aload_n 0, 1) := by decide +kernel
theorem dX10_weeksOf_95 : decode cX10_weeksOf 95 = .ok (.invokevirtual 221, 3) := by decide +kernel
theorem dX10_weeksOf_98 : decode cX10_weeksOf 98 = .ok (.iconst 0, 1) := by decide +kernel
theorem dX10_weeksOf_99 : decode cX10_weeksOf 99 = .ok (.istore 6, 2) := by decide +kernel
theorem dX10_weeksOf_101 : decode cX10_weeksOf 101 = .ok (.iconst 0, 1) := by decide +kernel
theorem dX10_weeksOf_102 : decode cX10_weeksOf 102 = .ok (.istore 7, 2) := by decide +kernel
theorem dX10_weeksOf_104 : decode cX10_weeksOf 104 = .ok (.iload 7, 2) := by decide +kernel
theorem dX10_weeksOf_106 : decode cX10_weeksOf 106 = .ok (.iload_n 2, 1) := by decide +kernel
theorem dX10_weeksOf_107 : decode cX10_weeksOf 107 = .ok (.if_icmp .ge 88, 3) := by decide +kernel
theorem dX10_weeksOf_110 : decode cX10_weeksOf 110 = .ok (.iload 5, 2) := by decide +kernel
theorem dX10_weeksOf_112 : decode cX10_weeksOf 112 = .ok (.ifCond .eq 83, 3) := by decide +kernel
theorem dX10_weeksOf_115 : decode cX10_weeksOf 115 = .ok (.aload_n 0, 1) := by decide +kernel
theorem dX10_weeksOf_116 : decode cX10_weeksOf 116 = .ok (.aload_n 0, 1) := by decide +kernel
theorem dX10_weeksOf_117 : decode cX10_weeksOf 117 = .ok (.getfield 37, 3) := by decide +kernel
theorem dX10_weeksOf_120 : decode cX10_weeksOf 120 = .ok (.aload_n 0, 1) := by decide +kernel
theorem dX10_weeksOf_121 : decode cX10_weeksOf 121 = .ok (.getfield 43, 3) := by decide +kernel
theorem dX10_weeksOf_124 : decode cX10_weeksOf 124 = .ok (.iload 7, 2) := by decide +kernel
theorem dX10_weeksOf_126 : decode cX10_weeksOf 126 = .ok (.iaload, 1) := by decide +kernel
theorem dX10_weeksOf_127 : decode cX10_weeksOf 127 = .ok (.invokevirtual 208, 3) := by decide +kernel
theorem dX10_weeksOf_130 : decode cX10_weeksOf 130 = .ok (.ifCond .ne 24, 3) := by decide +kernel
theorem dX10_weeksOf_133 : decode cX10_weeksOf 133 = .ok (.iload 6, 2) := by decide +kernel
theorem dX10_weeksOf_135 : decode cX10_weeksOf 135 = .ok (.bipush 60, 2) := by decide +kernel
theorem dX10_weeksOf_137 : decode cX10_weeksOf 137 = .ok (.if_icmp .gt 17, 3) := by decide +kernel
theorem dX10_weeksOf_140 : decode cX10_weeksOf 140 = .ok (.aload_n 0, 1) := by decide +kernel
theorem dX10_weeksOf_141 : decode cX10_weeksOf 141 = .ok (.aload_n 0, 1) := by decide +kernel
theorem dX10_weeksOf_142 : decode cX10_weeksOf 142 = .ok (.getfield 37, 3) := by decide +kernel
theorem dX10_weeksOf_145 : decode cX10_weeksOf 145 = .ok (.invokevirtual 201, 3) := by decide +kernel
theorem dX10_weeksOf_148 : decode cX10_weeksOf 148 = .ok (.iinc 6 1, 3) := by decide +kernel
theorem dX10_weeksOf_151 : decode cX10_weeksOf 151 = .ok (.goto (-36), 3) := by decide +kernel
theorem dX10_weeksOf_154 : decode cX10_weeksOf 154 = .ok (.iload 6, 2) := by decide +kernel
theorem dX10_weeksOf_156 : decode cX10_weeksOf 156 = .ok (.bipush 60, 2) := by decide +kernel
theorem dX10_weeksOf_158 : decode cX10_weeksOf 158 = .ok (.if_icmp .gt 7, 3) := by decide +kernel
theorem dX10_weeksOf_161 : decode cX10_weeksOf 161 = .ok (.iconst 1, 1) := by decide +kernel
theorem dX10_weeksOf_162 : decode cX10_weeksOf 162 = .ok (.goto 4, 3) := by decide +kernel
theorem dX10_weeksOf_165 : decode cX10_weeksOf 165 = .ok (.iconst 0, 1) := by decide +kernel
theorem dX10_weeksOf_166 : decode cX10_weeksOf 166 = .ok (.istore 5, 2) := by decide +kernel
theorem dX10_weeksOf_168 : decode cX10_weeksOf 168 = .ok (.iload 5, 2) := by decide +kernel
theorem dX10_weeksOf_170 : decode cX10_weeksOf 170 = .ok (.ifCond .eq 19, 3) := by decide +kernel
theorem dX10_weeksOf_173 : decode cX10_weeksOf 173 = .ok (.aload_n 0, 1) := by decide +kernel
theorem dX10_weeksOf_174 : decode cX10_weeksOf 174 = .ok (.aload_n 0, 1) := by decide +kernel
theorem dX10_weeksOf_175 : decode cX10_weeksOf 175 = .ok (.getfield 37, 3) := by decide +kernel
theorem dX10_weeksOf_178 : decode cX10_weeksOf 178 = .ok (.aload_n 0, 1) := by decide +kernel
theorem dX10_weeksOf_179 : decode cX10_weeksOf 179 = .ok (.getfield 43, 3) := by decide +kernel
theorem dX10_weeksOf_182 : decode cX10_weeksOf 182 = .ok (.iload 7, 2) := by decide +kernel
theorem dX10_weeksOf_184 : decode cX10_weeksOf 184 = .ok (.iaload, 1) := by decide +kernel
theorem dX10_weeksOf_185 : decode cX10_weeksOf 185 = .ok (.invokevirtual 212, 3) := by decide +kernel
theorem dX10_weeksOf_188 : decode cX10_weeksOf 188 = .ok (.pop, 1) := by decide +kernel
theorem dX10_weeksOf_189 : decode cX10_weeksOf 189 = .ok (.iinc 7 1, 3) := by decide +kernel
theorem dX10_weeksOf_192 : decode cX10_weeksOf 192 = .ok (.goto (-88), 3) := by decide +kernel
theorem dX10_weeksOf_195 : decode cX10_weeksOf 195 = .ok (.iload 5, 2) := by decide +kernel
theorem dX10_weeksOf_197 : decode cX10_weeksOf 197 = .ok (.ifCond .eq 8, 3) := by decide +kernel
theorem dX10_weeksOf_200 : decode cX10_weeksOf 200 = .ok (.iload 6, 2) := by decide +kernel
theorem dX10_weeksOf_202 : decode cX10_weeksOf 202 = .ok (.goto 4, 3) := by decide +kernel
theorem dX10_weeksOf_205 : decode cX10_weeksOf 205 = .ok (.iconst (-1), 1) := by decide +kernel
theorem dX10_weeksOf_206 : decode cX10_weeksOf 206 = .ok (.ireturn, 1) := by decide +kernel
theorem dX10_order_0 : decode cX10_order 0 = .ok (.aload_n 0, 1) := by decide +kernel
theorem dX10_order_1 : decode cX10_order 1 = .ok (.iload_n 1, 1) := by decide +kernel
theorem dX10_order_2 : decode cX10_order 2 = .ok (.iconst (-1), 1) := by decide +kernel
theorem dX10_order_3 : decode cX10_order 3 = .ok (.if_icmp .lt 7, 3) := by decide +kernel
theorem dX10_order_6 : decode cX10_order 6 = .ok (.iconst 1, 1) := by decide +kernel
theorem dX10_order_7 : decode cX10_order 7 = .ok (.goto 4, 3) := by decide +kernel
theorem dX10_order_10 : decode cX10_order 10 = .ok (.iconst 0, 1) := by decide +kernel
theorem dX10_order_11 : decode cX10_order 11 = .ok (.invokevirtual 194, 3) := by decide +kernel
theorem dX10_order_14 : decode cX10_order 14 = .ok (.istore_n 2, 1) := by decide +kernel
theorem dX10_order_15 : decode cX10_order 15 = .ok (.iload_n 2, 1) := by decide +kernel
theorem dX10_order_16 : decode cX10_order 16 = .ok (.ifCond .ge 5, 3) := by decide +kernel
theorem dX10_order_19 : decode cX10_order 19 = .ok (.iload_n 2, 1) := by decide +kernel
theorem dX10_order_20 : decode cX10_order 20 = .ok (.ireturn, 1) := by decide +kernel
theorem dX10_order_21 : decode cX10_order 21 = .ok (.aload_n 0, 1) := by decide +kernel
theorem dX10_order_22 : decode cX10_order 22 = .ok (.getfield 31, 3) := by decide +kernel
theorem dX10_order_25 : decode cX10_order 25 = .ok (.iconst 1, 1) := by decide +kernel
theorem dX10_order_26 : decode cX10_order 26 = .ok (.iaload, 1) := by decide +kernel
theorem dX10_order_27 : decode cX10_order 27 = .ok (.aload_n 0, 1) := by decide +kernel
theorem dX10_order_28 : decode cX10_order 28 = .ok (.getfield 34, 3) := by decide +kernel
theorem dX10_order_31 : decode cX10_order 31 = .ok (.iconst 4, 1) := by decide +kernel
theorem dX10_order_32 : decode cX10_order 32 = .ok (.iaload, 1) := by decide +kernel
theorem dX10_order_33 : decode cX10_order 33 = .ok (.invokestatic 234, 3) := by decide +kernel
theorem dX10_order_36 : decode cX10_order 36 = .ok (.isub, 1) := by decide +kernel
theorem dX10_order_37 : decode cX10_order 37 = .ok (.istore_n 3, 1) := by decide +kernel
theorem dX10_order_38 : decode cX10_order 38 = .ok (.iconst 1, 1) := by decide +kernel
theorem dX10_order_39 : decode cX10_order 39 = .ok (.istore 4, 2) := by decide +kernel
theorem dX10_order_41 : decode cX10_order 41 = .ok (.iconst 0, 1) := by decide +kernel
theorem dX10_order_42 : decode cX10_order 42 = .ok (.istore 5, 2) := by decide +kernel
theorem dX10_order_44 : decode cX10_order 44 = .ok (.iload 5, 2) := by decide +kernel
theorem dX10_order_46 : decode cX10_order 46 = .ok (.iload_n 3, 1) := by decide +kernel
theorem dX10_order_47 : decode cX10_order 47 = .ok (.if_icmp .ge 20, 3) := by decide +kernel
theorem dX10_order_50 : decode cX10_order 50 = .ok (.iload 4, 2) := by decide +kernel
theorem dX10_order_52 : decode cX10_order 52 = .ok (.aload_n 0, 1) := by decide +kernel
theorem dX10_order_53 : decode cX10_order 53 = .ok (.getfield 31, 3) := by decide +kernel
theorem dX10_order_56 : decode cX10_order 56 = .ok (.iconst 1, 1) := by decide +kernel
theorem dX10_order_57 : decode cX10_order 57 = .ok (.iaload, 1) := by decide +kernel
theorem dX10_order_58 : decode cX10_order 58 = .ok (.imul, 1) := by decide +kernel
theorem dX10_order_59 : decode cX10_order 59 = .ok (.istore 4, 2) := by decide +kernel
theorem dX10_order_61 : decode cX10_order 61 = .ok (.iinc 5 1, 3) := by decide +kernel
theorem dX10_order_64 : decode cX10_order 64 = .ok (.goto (-20), 3) := by decide +kernel
theorem dX10_order_67 : decode cX10_order 67 = .ok (.ldc 133, 2) := by decide +kernel
theorem dX10_order_69 : decode cX10_order 69 = .ok (.istore 5, 2) := by decide +kernel
theorem dX10_order_71 : decode cX10_order 71 = .ok (.bipush 61, 2) := by decide +kernel
theorem dX10_order_73 : decode cX10_order 73 = .ok (.istore 6, 2) := by decide +kernel
theorem dX10_order_75 : decode cX10_order 75 = .ok (.iconst 0, 1) := by decide +kernel
theorem dX10_order_76 : decode cX10_order 76 = .ok (.istore 7, 2) := by decide +kernel
theorem dX10_order_78 : decode cX10_order 78 = .ok (.iload 7, 2) := by decide +kernel
theorem dX10_order_80 : decode cX10_order 80 = .ok (.iload 4, 2) := by decide +kernel
theorem dX10_order_82 : decode cX10_order 82 = .ok (.if_icmp .ge 65, 3) := by decide +kernel
theorem dX10_order_85 : decode cX10_order 85 = .ok (.aload_n 0, 1) := by decide +kernel
theorem dX10_order_86 : decode cX10_order 86 = .ok (.iload 7, 2) := by decide +kernel
theorem dX10_order_88 : decode cX10_order 88 = .ok (.iload_n 3, 1) := by decide +kernel
theorem dX10_order_89 : decode cX10_order 89 = .ok (.invokevirtual 237, 3) := by decide +kernel
theorem dX10_order_92 : decode cX10_order 92 = .ok (.istore 8, 2) := by decide +kernel
theorem dX10_order_94 : decode cX10_order 94 = .ok (.iload 8, 2) := by decide +kernel
theorem dX10_order_96 : decode cX10_order 96 = .ok (.ifCond .lt 14, 3) := by decide +kernel
theorem dX10_order_99 : decode cX10_order 99 = .ok (.iload 8, 2) := by decide +kernel
theorem dX10_order_101 : decode cX10_order 101 = .ok (.iload 6, 2) := by decide +kernel
theorem dX10_order_103 : decode cX10_order 103 = .ok (.if_icmp .ge 7, 3) := by decide +kernel
theorem dX10_order_106 : decode cX10_order 106 = .ok (.iconst 1, 1) := by decide +kernel
theorem dX10_order_107 : decode cX10_order 107 = .ok (.goto 4, 3) := by decide +kernel
theorem dX10_order_110 : decode cX10_order 110 = .ok (.iconst 0, 1) := by decide +kernel
theorem dX10_order_111 : decode cX10_order 111 = .ok (.istore 9, 2) := by decide +kernel
theorem dX10_order_113 : decode cX10_order 113 = .ok (.iload 9, 2) := by decide +kernel
theorem dX10_order_115 : decode cX10_order 115 = .ok (.ifCond .eq 8, 3) := by decide +kernel
theorem dX10_order_118 : decode cX10_order 118 = .ok (.iload 7, 2) := by decide +kernel
theorem dX10_order_120 : decode cX10_order 120 = .ok (.goto 5, 3) := by decide +kernel
theorem dX10_order_123 : decode cX10_order 123 = .ok (.iload 5, 2) := by decide +kernel
theorem dX10_order_125 : decode cX10_order 125 = .ok (.istore 5, 2) := by decide +kernel
theorem dX10_order_127 : decode cX10_order 127 = .ok (.iload 9, 2) := by decide +kernel
theorem dX10_order_129 : decode cX10_order 129 = .ok (.ifCond .eq 8, 3) := by decide +kernel
theorem dX10_order_132 : decode cX10_order 132 = .ok (.iload 8, 2) := by decide +kernel
theorem dX10_order_134 : decode cX10_order 134 = .ok (.goto 5, 3) := by decide +kernel
theorem dX10_order_137 : decode cX10_order 137 = .ok (.iload 6, 2) := by decide +kernel
theorem dX10_order_139 : decode cX10_order 139 = .ok (.istore 6, 2) := by decide +kernel
theorem dX10_order_141 : decode cX10_order 141 = .ok (.iinc 7 1, 3) := by decide +kernel
theorem dX10_order_144 : decode cX10_order 144 = .ok (.goto (-66), 3) := by decide +kernel
theorem dX10_order_147 : decode cX10_order 147 = .ok (.iload 5, 2) := by decide +kernel
theorem dX10_order_149 : decode cX10_order 149 = .ok (.ldc 133, 2) := by decide +kernel
theorem dX10_order_151 : decode cX10_order 151 = .ok (.if_icmp .eq 8, 3) := by decide +kernel
theorem dX10_order_154 : decode cX10_order 154 = .ok (.iload_n 1, 1) := by decide +kernel
theorem dX10_order_155 : decode cX10_order 155 = .ok (.iload_n 3, 1) := by decide +kernel
theorem dX10_order_156 : decode cX10_order 156 = .ok (.if_icmp .lt 6, 3) := by decide +kernel
theorem dX10_order_159 : decode cX10_order 159 = .ok (.ldc 133, 2) := by decide +kernel
theorem dX10_order_161 : decode cX10_order 161 = .ok (.ireturn, 1) := by decide +kernel
theorem dX10_order_162 : decode cX10_order 162 = .ok (.aload_n 0, 1) := by decide +kernel
theorem dX10_order_163 : decode cX10_order 163 = .ok (.iload 5, 2) := by decide +kernel
theorem dX10_order_165 : decode cX10_order 165 = .ok (.iload_n 3, 1) := by decide +kernel
theorem dX10_order_166 : decode cX10_order 166 = .ok (.invokevirtual 237, 3) := by decide +kernel
theorem dX10_order_169 : decode cX10_order 169 = .ok (.pop, 1) := by decide +kernel
theorem dX10_order_170 : decode cX10_order 170 = .ok (.iload_n 1, 1) := by decide +kernel
theorem dX10_order_171 : decode cX10_order 171 = .ok (.ifCond .ge 8, 3) := by decide +kernel
theorem dX10_order_174 : decode cX10_order 174 = .ok (.iload 6, 2) := by decide +kernel
theorem dX10_order_176 : decode cX10_order 176 = .ok (.goto 9, 3) := by decide +kernel
theorem dX10_order_179 : decode cX10_order 179 = .ok (.aload_n 0, 1) := by decide +kernel
theorem dX10_order_180 : decode cX10_order 180 = .ok (.getfield 43, 3) := by decide +kernel
theorem dX10_order_183 : decode cX10_order 183 = .ok (.iload_n 1, 1) := by decide +kernel
theorem dX10_order_184 : decode cX10_order 184 = .ok (.iaload, 1) := by decide +kernel
theorem dX10_order_185 : decode cX10_order 185 = .ok (.ireturn, 1) := by decide +kernel
theorem dX10_clear_0 : decode cX10_clear 0 = .ok (.aload_n 0, 1) := by decide +kernel
theorem dX10_clear_1 : decode cX10_clear 1 = .ok (.iconst 1, 1) := by decide +kernel
theorem dX10_clear_2 : decode cX10_clear 2 = .ok (.invokevirtual 194, 3) := by decide +kernel
theorem dX10_clear_5 : decode cX10_clear 5 = .ok (.istore_n 1, 1) := by decide +kernel
theorem dX10_clear_6 : decode cX10_clear 6 = .ok (.iload_n 1, 1) := by decide +kernel
theorem dX10_clear_7 : decode cX10_clear 7 = .ok (.ifCond .ge 5, 3) := by decide +kernel
theorem dX10_clear_10 : decode cX10_clear 10 = .ok (.iload_n 1, 1) := by decide +kernel
theorem dX10_clear_11 : decode cX10_clear 11 = .ok (.ireturn, 1) := by decide +kernel
theorem dX10_clear_12 : decode cX10_clear 12 = .ok (.iconst 0, 1) := by decide +kernel
theorem dX10_clear_13 : decode cX10_clear 13 = .ok (.istore_n 2, 1) := by decide +kernel
theorem dX10_clear_14 : decode cX10_clear 14 = .ok (.iconst 0, 1) := by decide +kernel
theorem dX10_clear_15 : decode cX10_clear 15 = .ok (.istore_n 3, 1) := by decide +kernel
theorem dX10_clear_16 : decode cX10_clear 16 = .ok (.iload_n 3, 1) := by decide +kernel
theorem dX10_clear_17 : decode cX10_clear 17 = .ok (.aload_n 0, 1) := by decide +kernel
theorem dX10_clear_18 : decode cX10_clear 18 = .ok (.getfield 31, 3) := by decide +kernel
theorem dX10_clear_21 : decode cX10_clear 21 = .ok (.iconst 1, 1) := by decide +kernel
theorem dX10_clear_22 : decode cX10_clear 22 = .ok (.iaload, 1) := by decide +kernel
theorem dX10_clear_23 : decode cX10_clear 23 = .ok (.if_icmp .ge 35, 3) := by decide +kernel
theorem dX10_clear_26 : decode cX10_clear 26 = .ok (.iload_n 2, 1) := by decide +kernel
theorem dX10_clear_27 : decode cX10_clear 27 = .ok (.aload_n 0, 1) := by decide +kernel
theorem dX10_clear_28 : decode cX10_clear 28 = .ok (.aload_n 0, 1) := by decide +kernel
theorem dX10_clear_29 : decode cX10_clear 29 = .ok (.getfield 34, 3) := by decide +kernel
theorem dX10_clear_32 : decode cX10_clear 32 = .ok (.iload_n 3, 1) := by decide +kernel
theorem dX10_clear_33 : decode cX10_clear 33 = .ok (.invokevirtual 218, 3) := by decide +kernel
theorem dX10_clear_36 : decode cX10_clear 36 = .ok (.aload_n 0, 1) := by decide +kernel
theorem dX10_clear_37 : decode cX10_clear 37 = .ok (.invokevirtual 176, 3) := by decide +kernel
theorem dX10_clear_40 : decode cX10_clear 40 = .ok (.if_icmp .ne 9, 3) := by decide +kernel
theorem dX10_clear_43 : decode cX10_clear 43 = .ok (.iconst 1, 1) := by decide +kernel
theorem dX10_clear_44 : decode cX10_clear 44 = .ok (.iload_n 3, 1) := by decide +kernel
theorem dX10_clear_45 : decode cX10_clear 45 = .ok (.ishl, 1) := by decide +kernel
theorem dX10_clear_46 : decode cX10_clear 46 = .ok (.goto 4, 3) := by decide +kernel
theorem dX10_clear_49 : decode cX10_clear 49 = .ok (.iconst 0, 1) := by decide +kernel
theorem dX10_clear_50 : decode cX10_clear 50 = .ok (.ior, 1) := by decide +kernel
theorem dX10_clear_51 : decode cX10_clear 51 = .ok (.istore_n 2, 1) := by decide +kernel
theorem dX10_clear_52 : decode cX10_clear 52 = .ok (.iinc 3 1, 3) := by decide +kernel
theorem dX10_clear_55 : decode cX10_clear 55 = .ok (.goto (-39), 3) := by decide +kernel
theorem dX10_clear_58 : decode cX10_clear 58 = .ok (.iload_n 2, 1) := by decide +kernel
theorem dX10_clear_59 : decode cX10_clear 59 = .ok (.ireturn, 1) := by decide +kernel
theorem dX10_passedOn_0 : decode cX10_passedOn 0 = .ok (.aload_n 0, 1) := by decide +kernel
theorem dX10_passedOn_1 : decode cX10_passedOn 1 = .ok (.getfield 31, 3) := by decide +kernel
theorem dX10_passedOn_4 : decode cX10_passedOn 4 = .ok (.bipush 8, 2) := by decide +kernel
theorem dX10_passedOn_6 : decode cX10_passedOn 6 = .ok (.iload_n 1, 1) := by decide +kernel
theorem dX10_passedOn_7 : decode cX10_passedOn 7 = .ok (.iadd, 1) := by decide +kernel
theorem dX10_passedOn_8 : decode cX10_passedOn 8 = .ok (.iaload, 1) := by decide +kernel
theorem dX10_passedOn_9 : decode cX10_passedOn 9 = .ok (.istore 4, 2) := by decide +kernel
theorem dX10_passedOn_11 : decode cX10_passedOn 11 = .ok (.aload_n 0, 1) := by decide +kernel
theorem dX10_passedOn_12 : decode cX10_passedOn 12 = .ok (.getfield 34, 3) := by decide +kernel
theorem dX10_passedOn_15 : decode cX10_passedOn 15 = .ok (.iconst 4, 1) := by decide +kernel
theorem dX10_passedOn_16 : decode cX10_passedOn 16 = .ok (.iaload, 1) := by decide +kernel
theorem dX10_passedOn_17 : decode cX10_passedOn 17 = .ok (.iload_n 1, 1) := by decide +kernel
theorem dX10_passedOn_18 : decode cX10_passedOn 18 = .ok (.invokestatic 165, 3) := by decide +kernel
theorem dX10_passedOn_21 : decode cX10_passedOn 21 = .ok (.ifCond .eq 15, 3) := by decide +kernel
theorem dX10_passedOn_24 : decode cX10_passedOn 24 = .ok (.aload_n 0, 1) := by decide +kernel
theorem dX10_passedOn_25 : decode cX10_passedOn 25 = .ok (.getfield 34, 3) := by decide +kernel
theorem dX10_passedOn_28 : decode cX10_passedOn 28 = .ok (.bipush 15, 2) := by decide +kernel
theorem dX10_passedOn_30 : decode cX10_passedOn 30 = .ok (.iload_n 1, 1) := by decide +kernel
theorem dX10_passedOn_31 : decode cX10_passedOn 31 = .ok (.iadd, 1) := by decide +kernel
theorem dX10_passedOn_32 : decode cX10_passedOn 32 = .ok (.iaload, 1) := by decide +kernel
theorem dX10_passedOn_33 : decode cX10_passedOn 33 = .ok (.goto 19, 3) := by decide +kernel
theorem dX10_passedOn_36 : decode cX10_passedOn 36 = .ok (.aload_n 0, 1) := by decide +kernel
theorem dX10_passedOn_37 : decode cX10_passedOn 37 = .ok (.iload 4, 2) := by decide +kernel
theorem dX10_passedOn_39 : decode cX10_passedOn 39 = .ok (.aload_n 0, 1) := by decide +kernel
theorem dX10_passedOn_40 : decode cX10_passedOn 40 = .ok (.getfield 31, 3) := by decide +kernel
theorem dX10_passedOn_43 : decode cX10_passedOn 43 = .ok (.bipush 14, 2) := by decide +kernel
theorem dX10_passedOn_45 : decode cX10_passedOn 45 = .ok (.iload_n 1, 1) := by decide +kernel
theorem dX10_passedOn_46 : decode cX10_passedOn 46 = .ok (.iadd, 1) := by decide +kernel
theorem dX10_passedOn_47 : decode cX10_passedOn 47 = .ok (.iaload, 1) := by decide +kernel
theorem dX10_passedOn_48 : decode cX10_passedOn 48 = .ok (.iload_n 3, 1) := by decide +kernel
theorem dX10_passedOn_49 : decode cX10_passedOn 49 = .ok (.invokevirtual 180, 3) := by decide +kernel
theorem dX10_passedOn_52 : decode cX10_passedOn 52 = .ok (.istore 5, 2) := by decide +kernel
theorem dX10_passedOn_54 : decode cX10_passedOn 54 = .ok (.iconst 0, 1) := by decide +kernel
theorem dX10_passedOn_55 : decode cX10_passedOn 55 = .ok (.istore 6, 2) := by decide +kernel
theorem dX10_passedOn_57 : decode cX10_passedOn 57 = .ok (.iload 6, 2) := by decide +kernel
theorem dX10_passedOn_59 : decode cX10_passedOn 59 = .ok (.iload_n 2, 1) := by decide +kernel
theorem dX10_passedOn_60 : decode cX10_passedOn 60 = .ok (.if_icmp .ge 20, 3) := by decide +kernel
theorem dX10_passedOn_63 : decode cX10_passedOn 63 = .ok (.aload_n 0, 1) := by decide +kernel
theorem dX10_passedOn_64 : decode cX10_passedOn 64 = .ok (.iload 4, 2) := by decide +kernel
theorem dX10_passedOn_66 : decode cX10_passedOn 66 = .ok (.iload 5, 2) := by decide +kernel
theorem dX10_passedOn_68 : decode cX10_passedOn 68 = .ok (.iload_n 3, 1) := by decide +kernel
theorem dX10_passedOn_69 : decode cX10_passedOn 69 = .ok (.invokevirtual 184, 3) := by decide +kernel
theorem dX10_passedOn_72 : decode cX10_passedOn 72 = .ok (.istore 5, 2) := by decide +kernel
theorem dX10_passedOn_74 : decode cX10_passedOn 74 = .ok (.iinc 6 1, 3) := by decide +kernel
theorem dX10_passedOn_77 : decode cX10_passedOn 77 = .ok (.goto (-20), 3) := by decide +kernel
theorem dX10_passedOn_80 : decode cX10_passedOn 80 = .ok (.iload 5, 2) := by decide +kernel
theorem dX10_passedOn_82 : decode cX10_passedOn 82 = .ok (.ireturn, 1) := by decide +kernel
theorem dX10_deaf_0 : decode cX10_deaf 0 = .ok (.aload_n 0, 1) := by decide +kernel
theorem dX10_deaf_1 : decode cX10_deaf 1 = .ok (.iload_n 1, 1) := by decide +kernel
theorem dX10_deaf_2 : decode cX10_deaf 2 = .ok (.invokevirtual 205, 3) := by decide +kernel
theorem dX10_deaf_5 : decode cX10_deaf 5 = .ok (.ifCond .eq 31, 3) := by decide +kernel
theorem dX10_deaf_8 : decode cX10_deaf 8 = .ok (.aload_n 0, 1) := by decide +kernel
theorem dX10_deaf_9 : decode cX10_deaf 9 = .ok (.iload_n 2, 1) := by decide +kernel
theorem dX10_deaf_10 : decode cX10_deaf 10 = .ok (.invokevirtual 215, 3) := by decide +kernel
theorem dX10_deaf_13 : decode cX10_deaf 13 = .ok (.ifCond .eq 23, 3) := by decide +kernel
theorem dX10_deaf_16 : decode cX10_deaf 16 = .ok (.iload_n 3, 1) := by decide +kernel
theorem dX10_deaf_17 : decode cX10_deaf 17 = .ok (.iconst 0, 1) := by decide +kernel
theorem dX10_deaf_18 : decode cX10_deaf 18 = .ok (.bipush 30, 2) := by decide +kernel
theorem dX10_deaf_20 : decode cX10_deaf 20 = .ok (.invokestatic 70, 3) := by decide +kernel
theorem dX10_deaf_23 : decode cX10_deaf 23 = .ok (.ifCond .eq 13, 3) := by decide +kernel
theorem dX10_deaf_26 : decode cX10_deaf 26 = .ok (.iload 4, 2) := by decide +kernel
theorem dX10_deaf_28 : decode cX10_deaf 28 = .ok (.iconst 0, 1) := by decide +kernel
theorem dX10_deaf_29 : decode cX10_deaf 29 = .ok (.iconst 1, 1) := by decide +kernel
theorem dX10_deaf_30 : decode cX10_deaf 30 = .ok (.invokestatic 70, 3) := by decide +kernel
theorem dX10_deaf_33 : decode cX10_deaf 33 = .ok (.ifCond .ne 6, 3) := by decide +kernel
theorem dX10_deaf_36 : decode cX10_deaf 36 = .ok (.ldc 78, 2) := by decide +kernel
theorem dX10_deaf_38 : decode cX10_deaf 38 = .ok (.ireturn, 1) := by decide +kernel
theorem dX10_deaf_39 : decode cX10_deaf 39 = .ok (.ldc 133, 2) := by decide +kernel
theorem dX10_deaf_41 : decode cX10_deaf 41 = .ok (.istore 5, 2) := by decide +kernel
theorem dX10_deaf_43 : decode cX10_deaf 43 = .ok (.aload_n 0, 1) := by decide +kernel
theorem dX10_deaf_44 : decode cX10_deaf 44 = .ok (.invokevirtual 176, 3) := by decide +kernel
theorem dX10_deaf_47 : decode cX10_deaf 47 = .ok (.istore 6, 2) := by decide +kernel
theorem dX10_deaf_49 : decode cX10_deaf 49 = .ok (.iload 6, 2) := by decide +kernel
theorem dX10_deaf_51 : decode cX10_deaf 51 = .ok (.ifCond .lt 91, 3) := by decide +kernel
theorem dX10_deaf_54 : decode cX10_deaf 54 = .ok (.iload 6, 2) := by decide +kernel
theorem dX10_deaf_56 : decode cX10_deaf 56 = .ok (.iload_n 2, 1) := by decide +kernel
theorem dX10_deaf_57 : decode cX10_deaf 57 = .ok (.invokestatic 165, 3) := by decide +kernel
theorem dX10_deaf_60 : decode cX10_deaf 60 = .ok (.ifCond .ne 39, 3) := by decide +kernel
theorem dX10_deaf_63 : decode cX10_deaf 63 = .ok (.iload 6, 2) := by decide +kernel
theorem dX10_deaf_65 : decode cX10_deaf 65 = .ok (.aload_n 0, 1) := by decide +kernel
theorem dX10_deaf_66 : decode cX10_deaf 66 = .ok (.getfield 31, 3) := by decide +kernel
theorem dX10_deaf_69 : decode cX10_deaf 69 = .ok (.bipush 14, 2) := by decide +kernel
theorem dX10_deaf_71 : decode cX10_deaf 71 = .ok (.iload_n 1, 1) := by decide +kernel
theorem dX10_deaf_72 : decode cX10_deaf 72 = .ok (.iadd, 1) := by decide +kernel
theorem dX10_deaf_73 : decode cX10_deaf 73 = .ok (.iaload, 1) := by decide +kernel
theorem dX10_deaf_74 : decode cX10_deaf 74 = .ok (.invokestatic 165, 3) := by decide +kernel
theorem dX10_deaf_77 : decode cX10_deaf 77 = .ok (.ifCond .ne 22, 3) := by decide +kernel
theorem dX10_deaf_80 : decode cX10_deaf 80 = .ok (.aload_n 0, 1) := by decide +kernel
theorem dX10_deaf_81 : decode cX10_deaf 81 = .ok (.iload_n 1, 1) := by decide +kernel
theorem dX10_deaf_82 : decode cX10_deaf 82 = .ok (.iload_n 3, 1) := by decide +kernel
theorem dX10_deaf_83 : decode cX10_deaf 83 = .ok (.iload 6, 2) := by decide +kernel
theorem dX10_deaf_85 : decode cX10_deaf 85 = .ok (.invokevirtual 240, 3) := by decide +kernel
theorem dX10_deaf_88 : decode cX10_deaf 88 = .ok (.iload_n 2, 1) := by decide +kernel
theorem dX10_deaf_89 : decode cX10_deaf 89 = .ok (.invokestatic 165, 3) := by decide +kernel
theorem dX10_deaf_92 : decode cX10_deaf 92 = .ok (.ifCond .ne 7, 3) := by decide +kernel
theorem dX10_deaf_95 : decode cX10_deaf 95 = .ok (.iconst 1, 1) := by decide +kernel
theorem dX10_deaf_96 : decode cX10_deaf 96 = .ok (.goto 4, 3) := by decide +kernel
theorem dX10_deaf_99 : decode cX10_deaf 99 = .ok (.iconst 0, 1) := by decide +kernel
theorem dX10_deaf_100 : decode cX10_deaf 100 = .ok (.istore 7, 2) := by decide +kernel
theorem dX10_deaf_102 : decode cX10_deaf 102 = .ok (.iload 7, 2) := by decide +kernel
theorem dX10_deaf_104 : decode cX10_deaf 104 = .ok (.ifCond .eq 28, 3) := by decide +kernel
theorem dX10_deaf_107 : decode cX10_deaf 107 = .ok (.iload 5, 2) := by decide +kernel
theorem dX10_deaf_109 : decode cX10_deaf 109 = .ok (.ldc 133, 2) := by decide +kernel
theorem dX10_deaf_111 : decode cX10_deaf 111 = .ok (.if_icmp .eq 16, 3) := by decide +kernel
theorem dX10_deaf_114 : decode cX10_deaf 114 = .ok (.iload 6, 2) := by decide +kernel
theorem dX10_deaf_116 : decode cX10_deaf 116 = .ok (.invokestatic 234, 3) := by decide +kernel
theorem dX10_deaf_119 : decode cX10_deaf 119 = .ok (.iload 5, 2) := by decide +kernel
theorem dX10_deaf_121 : decode cX10_deaf 121 = .ok (.invokestatic 234, 3) := by decide +kernel
theorem dX10_deaf_124 : decode cX10_deaf 124 = .ok (.if_icmp .gt 8, 3) := by decide +kernel
theorem dX10_deaf_127 : decode cX10_deaf 127 = .ok (.iload 6, 2) := by decide +kernel
theorem dX10_deaf_129 : decode cX10_deaf 129 = .ok (.goto 5, 3) := by decide +kernel
theorem dX10_deaf_132 : decode cX10_deaf 132 = .ok (.iload 5, 2) := by decide +kernel
theorem dX10_deaf_134 : decode cX10_deaf 134 = .ok (.istore 5, 2) := by decide +kernel
theorem dX10_deaf_136 : decode cX10_deaf 136 = .ok (.iinc 6 (-1), 3) := by decide +kernel
theorem dX10_deaf_139 : decode cX10_deaf 139 = .ok (.goto (-90), 3) := by decide +kernel
theorem dX10_deaf_142 : decode cX10_deaf 142 = .ok (.iload 5, 2) := by decide +kernel
theorem dX10_deaf_144 : decode cX10_deaf 144 = .ok (.ldc 133, 2) := by decide +kernel
theorem dX10_deaf_146 : decode cX10_deaf 146 = .ok (.if_icmp .ne 8, 3) := by decide +kernel
theorem dX10_deaf_149 : decode cX10_deaf 149 = .ok (.ldc 133, 2) := by decide +kernel
theorem dX10_deaf_151 : decode cX10_deaf 151 = .ok (.goto 18, 3) := by decide +kernel
theorem dX10_deaf_154 : decode cX10_deaf 154 = .ok (.iload 4, 2) := by decide +kernel
theorem dX10_deaf_156 : decode cX10_deaf 156 = .ok (.ifCond .ne 11, 3) := by decide +kernel
theorem dX10_deaf_159 : decode cX10_deaf 159 = .ok (.iload 5, 2) := by decide +kernel
theorem dX10_deaf_161 : decode cX10_deaf 161 = .ok (.invokestatic 234, 3) := by decide +kernel
theorem dX10_deaf_164 : decode cX10_deaf 164 = .ok (.goto 5, 3) := by decide +kernel
theorem dX10_deaf_167 : decode cX10_deaf 167 = .ok (.iload 5, 2) := by decide +kernel
theorem dX10_deaf_169 : decode cX10_deaf 169 = .ok (.ireturn, 1) := by decide +kernel
theorem dX10_claim_0 : decode cX10_claim 0 = .ok (.iconst 0, 1) := by decide +kernel
theorem dX10_claim_1 : decode cX10_claim 1 = .ok (.istore_n 2, 1) := by decide +kernel
theorem dX10_claim_2 : decode cX10_claim 2 = .ok (.iconst 0, 1) := by decide +kernel
theorem dX10_claim_3 : decode cX10_claim 3 = .ok (.istore_n 3, 1) := by decide +kernel
theorem dX10_claim_4 : decode cX10_claim 4 = .ok (.iload_n 3, 1) := by decide +kernel
theorem dX10_claim_5 : decode cX10_claim 5 = .ok (.aload_n 0, 1) := by decide +kernel
theorem dX10_claim_6 : decode cX10_claim 6 = .ok (.getfield 31, 3) := by decide +kernel
theorem dX10_claim_9 : decode cX10_claim 9 = .ok (.iconst 1, 1) := by decide +kernel
theorem dX10_claim_10 : decode cX10_claim 10 = .ok (.iaload, 1) := by decide +kernel
theorem dX10_claim_11 : decode cX10_claim 11 = .ok (.if_icmp .ge 47, 3) := by decide +kernel
theorem dX10_claim_14 : decode cX10_claim 14 = .ok (.iload_n 2, 1) := by decide +kernel
theorem dX10_claim_15 : decode cX10_claim 15 = .ok (.aload_n 0, 1) := by decide +kernel
theorem dX10_claim_16 : decode cX10_claim 16 = .ok (.getfield 31, 3) := by decide +kernel
theorem dX10_claim_19 : decode cX10_claim 19 = .ok (.bipush 14, 2) := by decide +kernel
theorem dX10_claim_21 : decode cX10_claim 21 = .ok (.iload_n 3, 1) := by decide +kernel
theorem dX10_claim_22 : decode cX10_claim 22 = .ok (.iadd, 1) := by decide +kernel
theorem dX10_claim_23 : decode cX10_claim 23 = .ok (.iaload, 1) := by decide +kernel
theorem dX10_claim_24 : decode cX10_claim 24 = .ok (.iload_n 1, 1) := by decide +kernel
theorem dX10_claim_25 : decode cX10_claim 25 = .ok (.if_icmp .ne 24, 3) := by decide +kernel
theorem dX10_claim_28 : decode cX10_claim 28 = .ok (.aload_n 0, 1) := by decide +kernel
theorem dX10_claim_29 : decode cX10_claim 29 = .ok (.getfield 34, 3) := by decide +kernel
theorem dX10_claim_32 : decode cX10_claim 32 = .ok (.iconst 4, 1) := by decide +kernel
theorem dX10_claim_33 : decode cX10_claim 33 = .ok (.iaload, 1) := by decide +kernel
theorem dX10_claim_34 : decode cX10_claim 34 = .ok (.iload_n 3, 1) := by decide +kernel
theorem dX10_claim_35 : decode cX10_claim 35 = .ok (.invokestatic 165, 3) := by decide +kernel
theorem dX10_claim_38 : decode cX10_claim 38 = .ok (.ifCond .ne 11, 3) := by decide +kernel
theorem dX10_claim_41 : decode cX10_claim 41 = .ok (.aload_n 0, 1) := by decide +kernel
theorem dX10_claim_42 : decode cX10_claim 42 = .ok (.iload_n 3, 1) := by decide +kernel
theorem dX10_claim_43 : decode cX10_claim 43 = .ok (.invokevirtual 158, 3) := by decide +kernel
theorem dX10_claim_46 : decode cX10_claim 46 = .ok (.goto 4, 3) := by decide +kernel
theorem dX10_claim_49 : decode cX10_claim 49 = .ok (.iconst 0, 1) := by decide +kernel
theorem dX10_claim_50 : decode cX10_claim 50 = .ok (.iadd, 1) := by decide +kernel
theorem dX10_claim_51 : decode cX10_claim 51 = .ok (.istore_n 2, 1) := by decide +kernel
theorem dX10_claim_52 : decode cX10_claim 52 = .ok (.iinc 3 1, 3) := by decide +kernel
theorem dX10_claim_55 : decode cX10_claim 55 = .ok (.goto (-51), 3) := by decide +kernel
theorem dX10_claim_58 : decode cX10_claim 58 = .ok (.iload_n 2, 1) := by decide +kernel
theorem dX10_claim_59 : decode cX10_claim 59 = .ok (.aload_n 0, 1) := by decide +kernel
theorem dX10_claim_60 : decode cX10_claim 60 = .ok (.getfield 34, 3) := by decide +kernel
theorem dX10_claim_63 : decode cX10_claim 63 = .ok (.bipush 10, 2) := by decide +kernel
theorem dX10_claim_65 : decode cX10_claim 65 = .ok (.iload_n 1, 1) := by decide +kernel
theorem dX10_claim_66 : decode cX10_claim 66 = .ok (.iadd, 1) := by decide +kernel
theorem dX10_claim_67 : decode cX10_claim 67 = .ok (.iaload, 1) := by decide +kernel
theorem dX10_claim_68 : decode cX10_claim 68 = .ok (.if_icmp .le 17, 3) := by decide +kernel
theorem dX10_claim_71 : decode cX10_claim 71 = .ok (.iload_n 2, 1) := by decide +kernel
theorem dX10_claim_72 : decode cX10_claim 72 = .ok (.aload_n 0, 1) := by decide +kernel
theorem dX10_claim_73 : decode cX10_claim 73 = .ok (.getfield 34, 3) := by decide +kernel
theorem dX10_claim_76 : decode cX10_claim 76 = .ok (.bipush 10, 2) := by decide +kernel
theorem dX10_claim_78 : decode cX10_claim 78 = .ok (.iload_n 1, 1) := by decide +kernel
theorem dX10_claim_79 : decode cX10_claim 79 = .ok (.iadd, 1) := by decide +kernel
theorem dX10_claim_80 : decode cX10_claim 80 = .ok (.iaload, 1) := by decide +kernel
theorem dX10_claim_81 : decode cX10_claim 81 = .ok (.isub, 1) := by decide +kernel
theorem dX10_claim_82 : decode cX10_claim 82 = .ok (.goto 4, 3) := by decide +kernel
theorem dX10_claim_85 : decode cX10_claim 85 = .ok (.iconst 0, 1) := by decide +kernel
theorem dX10_claim_86 : decode cX10_claim 86 = .ok (.ireturn, 1) := by decide +kernel
theorem dX10_share_0 : decode cX10_share 0 = .ok (.aload_n 0, 1) := by decide +kernel
theorem dX10_share_1 : decode cX10_share 1 = .ok (.iload_n 1, 1) := by decide +kernel
theorem dX10_share_2 : decode cX10_share 2 = .ok (.invokevirtual 215, 3) := by decide +kernel
theorem dX10_share_5 : decode cX10_share 5 = .ok (.ifCond .eq 13, 3) := by decide +kernel
theorem dX10_share_8 : decode cX10_share 8 = .ok (.iload_n 2, 1) := by decide +kernel
theorem dX10_share_9 : decode cX10_share 9 = .ok (.iconst 0, 1) := by decide +kernel
theorem dX10_share_10 : decode cX10_share 10 = .ok (.bipush 99, 2) := by decide +kernel
theorem dX10_share_12 : decode cX10_share 12 = .ok (.invokestatic 70, 3) := by decide +kernel
theorem dX10_share_15 : decode cX10_share 15 = .ok (.ifCond .ne 6, 3) := by decide +kernel
theorem dX10_share_18 : decode cX10_share 18 = .ok (.ldc 78, 2) := by decide +kernel
theorem dX10_share_20 : decode cX10_share 20 = .ok (.ireturn, 1) := by decide +kernel
theorem dX10_share_21 : decode cX10_share 21 = .ok (.iconst 0, 1) := by decide +kernel
theorem dX10_share_22 : decode cX10_share 22 = .ok (.istore_n 3, 1) := by decide +kernel
theorem dX10_share_23 : decode cX10_share 23 = .ok (.iconst 0, 1) := by decide +kernel
theorem dX10_share_24 : decode cX10_share 24 = .ok (.istore 4, 2) := by decide +kernel
theorem dX10_share_26 : decode cX10_share 26 = .ok (.iload 4, 2) := by decide +kernel
theorem dX10_share_28 : decode cX10_share 28 = .ok (.aload_n 0, 1) := by decide +kernel
theorem dX10_share_29 : decode cX10_share 29 = .ok (.getfield 31, 3) := by decide +kernel
theorem dX10_share_32 : decode cX10_share 32 = .ok (.iconst 0, 1) := by decide +kernel
theorem dX10_share_33 : decode cX10_share 33 = .ok (.iaload, 1) := by decide +kernel
theorem dX10_share_34 : decode cX10_share 34 = .ok (.if_icmp .ge 18, 3) := by decide +kernel
theorem dX10_share_37 : decode cX10_share 37 = .ok (.iload_n 3, 1) := by decide +kernel
theorem dX10_share_38 : decode cX10_share 38 = .ok (.aload_n 0, 1) := by decide +kernel
theorem dX10_share_39 : decode cX10_share 39 = .ok (.iload 4, 2) := by decide +kernel
theorem dX10_share_41 : decode cX10_share 41 = .ok (.invokevirtual 243, 3) := by decide +kernel
theorem dX10_share_44 : decode cX10_share 44 = .ok (.iadd, 1) := by decide +kernel
theorem dX10_share_45 : decode cX10_share 45 = .ok (.istore_n 3, 1) := by decide +kernel
theorem dX10_share_46 : decode cX10_share 46 = .ok (.iinc 4 1, 3) := by decide +kernel
theorem dX10_share_49 : decode cX10_share 49 = .ok (.goto (-23), 3) := by decide +kernel
theorem dX10_share_52 : decode cX10_share 52 = .ok (.iload_n 3, 1) := by decide +kernel
theorem dX10_share_53 : decode cX10_share 53 = .ok (.ifCond .ne 5, 3) := by decide +kernel
theorem dX10_share_56 : decode cX10_share 56 = .ok (.iconst 0, 1) := by decide +kernel
theorem dX10_share_57 : decode cX10_share 57 = .ok (.ireturn, 1) := by decide +kernel
theorem dX10_share_58 : decode cX10_share 58 = .ok (.iload_n 2, 1) := by decide +kernel
theorem dX10_share_59 : decode cX10_share 59 = .ok (.istore 4, 2) := by decide +kernel
theorem dX10_share_61 : decode cX10_share 61 = .ok (.iconst 0, 1) := by decide +kernel
theorem dX10_share_62 : decode cX10_share 62 = .ok (.istore 5, 2) := by decide +kernel
theorem dX10_share_64 : decode cX10_share 64 = .ok (.iload 5, 2) := by decide +kernel
theorem dX10_share_66 : decode cX10_share 66 = .ok (.aload_n 0, 1) := by decide +kernel
theorem dX10_share_67 : decode cX10_share 67 = .ok (.getfield 31, 3) := by decide +kernel
theorem dX10_share_70 : decode cX10_share 70 = .ok (.iconst 0, 1) := by decide +kernel
theorem dX10_share_71 : decode cX10_share 71 = .ok (.iaload, 1) := by decide +kernel
theorem dX10_share_72 : decode cX10_share 72 = .ok (.if_icmp .ge 24, 3) := by decide +kernel
theorem dX10_share_75 : decode cX10_share 75 = .ok (.iload 4, 2) := by decide +kernel
theorem dX10_share_77 : decode cX10_share 77 = .ok (.iload_n 2, 1) := by decide +kernel
theorem dX10_share_78 : decode cX10_share 78 = .ok (.aload_n 0, 1) := by decide +kernel
theorem dX10_share_79 : decode cX10_share 79 = .ok (.iload 5, 2) := by decide +kernel
theorem dX10_share_81 : decode cX10_share 81 = .ok (.invokevirtual 243, 3) := by decide +kernel
theorem dX10_share_84 : decode cX10_share 84 = .ok (.imul, 1) := by decide +kernel
theorem dX10_share_85 : decode cX10_share 85 = .ok (.iload_n 3, 1) := by decide +kernel
theorem dX10_share_86 : decode cX10_share 86 = .ok (.idiv, 1) := by decide +kernel
theorem dX10_share_87 : decode cX10_share 87 = .ok (.isub, 1) := by decide +kernel
theorem dX10_share_88 : decode cX10_share 88 = .ok (.istore 4, 2) := by decide +kernel
theorem dX10_share_90 : decode cX10_share 90 = .ok (.iinc 5 1, 3) := by decide +kernel
theorem dX10_share_93 : decode cX10_share 93 = .ok (.goto (-29), 3) := by decide +kernel
theorem dX10_share_96 : decode cX10_share 96 = .ok (.iconst 0, 1) := by decide +kernel
theorem dX10_share_97 : decode cX10_share 97 = .ok (.istore 5, 2) := by decide +kernel
theorem dX10_share_99 : decode cX10_share 99 = .ok (.iconst 0, 1) := by decide +kernel
theorem dX10_share_100 : decode cX10_share 100 = .ok (.istore 6, 2) := by decide +kernel
theorem dX10_share_102 : decode cX10_share 102 = .ok (.iload 6, 2) := by decide +kernel
theorem dX10_share_104 : decode cX10_share 104 = .ok (.iload_n 1, 1) := by decide +kernel
theorem dX10_share_105 : decode cX10_share 105 = .ok (.if_icmp .gt 65, 3) := by decide +kernel
theorem dX10_share_108 : decode cX10_share 108 = .ok (.iload_n 2, 1) := by decide +kernel
theorem dX10_share_109 : decode cX10_share 109 = .ok (.aload_n 0, 1) := by decide +kernel
theorem dX10_share_110 : decode cX10_share 110 = .ok (.iload 6, 2) := by decide +kernel
theorem dX10_share_112 : decode cX10_share 112 = .ok (.invokevirtual 243, 3) := by decide +kernel
theorem dX10_share_115 : decode cX10_share 115 = .ok (.imul, 1) := by decide +kernel
theorem dX10_share_116 : decode cX10_share 116 = .ok (.iload_n 3, 1) := by decide +kernel
theorem dX10_share_117 : decode cX10_share 117 = .ok (.idiv, 1) := by decide +kernel
theorem dX10_share_118 : decode cX10_share 118 = .ok (.aload_n 0, 1) := by decide +kernel
theorem dX10_share_119 : decode cX10_share 119 = .ok (.iload 6, 2) := by decide +kernel
theorem dX10_share_121 : decode cX10_share 121 = .ok (.invokevirtual 243, 3) := by decide +kernel
theorem dX10_share_124 : decode cX10_share 124 = .ok (.ifCond .le 12, 3) := by decide +kernel
theorem dX10_share_127 : decode cX10_share 127 = .ok (.iload 4, 2) := by decide +kernel
theorem dX10_share_129 : decode cX10_share 129 = .ok (.ifCond .le 7, 3) := by decide +kernel
theorem dX10_share_132 : decode cX10_share 132 = .ok (.iconst 1, 1) := by decide +kernel
theorem dX10_share_133 : decode cX10_share 133 = .ok (.goto 4, 3) := by decide +kernel
theorem dX10_share_136 : decode cX10_share 136 = .ok (.iconst 0, 1) := by decide +kernel
theorem dX10_share_137 : decode cX10_share 137 = .ok (.iadd, 1) := by decide +kernel
theorem dX10_share_138 : decode cX10_share 138 = .ok (.istore 5, 2) := by decide +kernel
theorem dX10_share_140 : decode cX10_share 140 = .ok (.iload 4, 2) := by decide +kernel
theorem dX10_share_142 : decode cX10_share 142 = .ok (.aload_n 0, 1) := by decide +kernel
theorem dX10_share_143 : decode cX10_share 143 = .ok (.iload 6, 2) := by decide +kernel
theorem dX10_share_145 : decode cX10_share 145 = .ok (.invokevirtual 243, 3) := by decide +kernel
theorem dX10_share_148 : decode cX10_share 148 = .ok (.ifCond .le 12, 3) := by decide +kernel
theorem dX10_share_151 : decode cX10_share 151 = .ok (.iload 4, 2) := by decide +kernel
theorem dX10_share_153 : decode cX10_share 153 = .ok (.ifCond .le 7, 3) := by decide +kernel
theorem dX10_share_156 : decode cX10_share 156 = .ok (.iconst 1, 1) := by decide +kernel
theorem dX10_share_157 : decode cX10_share 157 = .ok (.goto 4, 3) := by decide +kernel
theorem dX10_share_160 : decode cX10_share 160 = .ok (.iconst 0, 1) := by decide +kernel
theorem dX10_share_161 : decode cX10_share 161 = .ok (.isub, 1) := by decide +kernel
theorem dX10_share_162 : decode cX10_share 162 = .ok (.istore 4, 2) := by decide +kernel
theorem dX10_share_164 : decode cX10_share 164 = .ok (.iinc 6 1, 3) := by decide +kernel
theorem dX10_share_167 : decode cX10_share 167 = .ok (.goto (-65), 3) := by decide +kernel
theorem dX10_share_170 : decode cX10_share 170 = .ok (.iload 5, 2) := by decide +kernel
theorem dX10_share_172 : decode cX10_share 172 = .ok (.ireturn, 1) := by decide +kernel
theorem dX10_thrift_0 : decode cX10_thrift 0 = .ok (.aload_n 0, 1) := by decide +kernel
theorem dX10_thrift_1 : decode cX10_thrift 1 = .ok (.iload_n 1, 1) := by decide +kernel
theorem dX10_thrift_2 : decode cX10_thrift 2 = .ok (.invokevirtual 215, 3) := by decide +kernel
theorem dX10_thrift_5 : decode cX10_thrift 5 = .ok (.ifCond .eq 28, 3) := by decide +kernel
theorem dX10_thrift_8 : decode cX10_thrift 8 = .ok (.iload_n 2, 1) := by decide +kernel
theorem dX10_thrift_9 : decode cX10_thrift 9 = .ok (.invokestatic 224, 3) := by decide +kernel
theorem dX10_thrift_12 : decode cX10_thrift 12 = .ok (.ifCond .eq 21, 3) := by decide +kernel
theorem dX10_thrift_15 : decode cX10_thrift 15 = .ok (.iload_n 3, 1) := by decide +kernel
theorem dX10_thrift_16 : decode cX10_thrift 16 = .ok (.invokestatic 74, 3) := by decide +kernel
theorem dX10_thrift_19 : decode cX10_thrift 19 = .ok (.ifCond .eq 14, 3) := by decide +kernel
theorem dX10_thrift_22 : decode cX10_thrift 22 = .ok (.iload 5, 2) := by decide +kernel
theorem dX10_thrift_24 : decode cX10_thrift 24 = .ok (.iconst 1, 1) := by decide +kernel
theorem dX10_thrift_25 : decode cX10_thrift 25 = .ok (.bipush 12, 2) := by decide +kernel
theorem dX10_thrift_27 : decode cX10_thrift 27 = .ok (.invokestatic 70, 3) := by decide +kernel
theorem dX10_thrift_30 : decode cX10_thrift 30 = .ok (.ifCond .ne 6, 3) := by decide +kernel
theorem dX10_thrift_33 : decode cX10_thrift 33 = .ok (.ldc 78, 2) := by decide +kernel
theorem dX10_thrift_35 : decode cX10_thrift 35 = .ok (.ireturn, 1) := by decide +kernel
theorem dX10_thrift_36 : decode cX10_thrift 36 = .ok (.aload_n 0, 1) := by decide +kernel
theorem dX10_thrift_37 : decode cX10_thrift 37 = .ok (.getfield 7, 3) := by decide +kernel
theorem dX10_thrift_40 : decode cX10_thrift 40 = .ok (.iload_n 3, 1) := by decide +kernel
theorem dX10_thrift_41 : decode cX10_thrift 41 = .ok (.iaload, 1) := by decide +kernel
theorem dX10_thrift_42 : decode cX10_thrift 42 = .ok (.ifCond .ge 9, 3) := by decide +kernel
theorem dX10_thrift_45 : decode cX10_thrift 45 = .ok (.aload_n 0, 1) := by decide +kernel
theorem dX10_thrift_46 : decode cX10_thrift 46 = .ok (.iconst 1, 1) := by decide +kernel
theorem dX10_thrift_47 : decode cX10_thrift 47 = .ok (.invokevirtual 79, 3) := by decide +kernel
theorem dX10_thrift_50 : decode cX10_thrift 50 = .ok (.ireturn, 1) := by decide +kernel
theorem dX10_thrift_51 : decode cX10_thrift 51 = .ok (.aload_n 0, 1) := by decide +kernel
theorem dX10_thrift_52 : decode cX10_thrift 52 = .ok (.iload_n 3, 1) := by decide +kernel
theorem dX10_thrift_53 : decode cX10_thrift 53 = .ok (.iload 4, 2) := by decide +kernel
theorem dX10_thrift_55 : decode cX10_thrift 55 = .ok (.iload 5, 2) := by decide +kernel
theorem dX10_thrift_57 : decode cX10_thrift 57 = .ok (.invokevirtual 86, 3) := by decide +kernel
theorem dX10_thrift_60 : decode cX10_thrift 60 = .ok (.ifCond .ne 9, 3) := by decide +kernel
theorem dX10_thrift_63 : decode cX10_thrift 63 = .ok (.aload_n 0, 1) := by decide +kernel
theorem dX10_thrift_64 : decode cX10_thrift 64 = .ok (.iconst 2, 1) := by decide +kernel
theorem dX10_thrift_65 : decode cX10_thrift 65 = .ok (.invokevirtual 79, 3) := by decide +kernel
theorem dX10_thrift_68 : decode cX10_thrift 68 = .ok (.ireturn, 1) := by decide +kernel
theorem dX10_thrift_69 : decode cX10_thrift 69 = .ok (.iconst 0, 1) := by decide +kernel
theorem dX10_thrift_70 : decode cX10_thrift 70 = .ok (.istore 6, 2) := by decide +kernel
theorem dX10_thrift_72 : decode cX10_thrift 72 = .ok (.iload 6, 2) := by decide +kernel
theorem dX10_thrift_74 : decode cX10_thrift 74 = .ok (.iload 5, 2) := by decide +kernel
theorem dX10_thrift_76 : decode cX10_thrift 76 = .ok (.if_icmp .ge 34, 3) := by decide +kernel
theorem dX10_thrift_79 : decode cX10_thrift 79 = .ok (.aload_n 0, 1) := by decide +kernel
theorem dX10_thrift_80 : decode cX10_thrift 80 = .ok (.iload_n 3, 1) := by decide +kernel
theorem dX10_thrift_81 : decode cX10_thrift 81 = .ok (.iload 4, 2) := by decide +kernel
theorem dX10_thrift_83 : decode cX10_thrift 83 = .ok (.iload 6, 2) := by decide +kernel
theorem dX10_thrift_85 : decode cX10_thrift 85 = .ok (.iadd, 1) := by decide +kernel
theorem dX10_thrift_86 : decode cX10_thrift 86 = .ok (.invokevirtual 246, 3) := by decide +kernel
theorem dX10_thrift_89 : decode cX10_thrift 89 = .ok (.iconst 1, 1) := by decide +kernel
theorem dX10_thrift_90 : decode cX10_thrift 90 = .ok (.bipush 9, 2) := by decide +kernel
theorem dX10_thrift_92 : decode cX10_thrift 92 = .ok (.invokestatic 70, 3) := by decide +kernel
theorem dX10_thrift_95 : decode cX10_thrift 95 = .ok (.ifCond .ne 9, 3) := by decide +kernel
theorem dX10_thrift_98 : decode cX10_thrift 98 = .ok (.aload_n 0, 1) := by decide +kernel
theorem dX10_thrift_99 : decode cX10_thrift 99 = .ok (.iconst 3, 1) := by decide +kernel
theorem dX10_thrift_100 : decode cX10_thrift 100 = .ok (.invokevirtual 79, 3) := by decide +kernel
theorem dX10_thrift_103 : decode cX10_thrift 103 = .ok (.ireturn, 1) := by decide +kernel
theorem dX10_thrift_104 : decode cX10_thrift 104 = .ok (.iinc 6 1, 3) := by decide +kernel
theorem dX10_thrift_107 : decode cX10_thrift 107 = .ok (.goto (-35), 3) := by decide +kernel
theorem dX10_thrift_110 : decode cX10_thrift 110 = .ok (.iconst 0, 1) := by decide +kernel
theorem dX10_thrift_111 : decode cX10_thrift 111 = .ok (.istore 6, 2) := by decide +kernel
theorem dX10_thrift_113 : decode cX10_thrift 113 = .ok (.iload 6, 2) := by decide +kernel
theorem dX10_thrift_115 : decode cX10_thrift 115 = .ok (.bipush 60, 2) := by decide +kernel
theorem dX10_thrift_117 : decode cX10_thrift 117 = .ok (.if_icmp .gt 33, 3) := by decide +kernel
theorem dX10_thrift_120 : decode cX10_thrift 120 = .ok (.aload_n 0, 1) := by decide +kernel
theorem dX10_thrift_121 : decode cX10_thrift 121 = .ok (.getfield 46, 3) := by decide +kernel
theorem dX10_thrift_124 : decode cX10_thrift 124 = .ok (.iload 6, 2) := by decide +kernel
theorem dX10_thrift_126 : decode cX10_thrift 126 = .ok (.iload 6, 2) := by decide +kernel
theorem dX10_thrift_128 : decode cX10_thrift 128 = .ok (.ifCond .ne 14, 3) := by decide +kernel
theorem dX10_thrift_131 : decode cX10_thrift 131 = .ok (.aload_n 0, 1) := by decide +kernel
theorem dX10_thrift_132 : decode cX10_thrift 132 = .ok (.getfield 34, 3) := by decide +kernel
theorem dX10_thrift_135 : decode cX10_thrift 135 = .ok (.iconst 5, 1) := by decide +kernel
theorem dX10_thrift_136 : decode cX10_thrift 136 = .ok (.iload_n 1, 1) := by decide +kernel
theorem dX10_thrift_137 : decode cX10_thrift 137 = .ok (.iadd, 1) := by decide +kernel
theorem dX10_thrift_138 : decode cX10_thrift 138 = .ok (.iaload, 1) := by decide +kernel
theorem dX10_thrift_139 : decode cX10_thrift 139 = .ok (.goto 4, 3) := by decide +kernel
theorem dX10_thrift_142 : decode cX10_thrift 142 = .ok (.iconst (-1), 1) := by decide +kernel
theorem dX10_thrift_143 : decode cX10_thrift 143 = .ok (.iastore, 1) := by decide +kernel
theorem dX10_thrift_144 : decode cX10_thrift 144 = .ok (.iinc 6 1, 3) := by decide +kernel
theorem dX10_thrift_147 : decode cX10_thrift 147 = .ok (.goto (-34), 3) := by decide +kernel
theorem dX10_thrift_150 : decode cX10_thrift 150 = .ok (.iconst 0, 1) := by decide +kernel
theorem dX10_thrift_151 : decode cX10_thrift 151 = .ok (.istore 6, 2) := by decide +kernel
theorem dX10_thrift_153 : decode cX10_thrift 153 = .ok (.iload 6, 2) := by decide +kernel
theorem dX10_thrift_155 : decode cX10_thrift 155 = .ok (.iload 5, 2) := by decide +kernel
theorem dX10_thrift_157 : decode cX10_thrift 157 = .ok (.if_icmp .ge 24, 3) := by decide +kernel
theorem dX10_thrift_160 : decode cX10_thrift 160 = .ok (.aload_n 0, 1) := by decide +kernel
theorem dX10_thrift_161 : decode cX10_thrift 161 = .ok (.iload_n 1, 1) := by decide +kernel
theorem dX10_thrift_162 : decode cX10_thrift 162 = .ok (.aload_n 0, 1) := by decide +kernel
theorem dX10_thrift_163 : decode cX10_thrift 163 = .ok (.iload_n 3, 1) := by decide +kernel
theorem dX10_thrift_164 : decode cX10_thrift 164 = .ok (.iload 4, 2) := by decide +kernel
theorem dX10_thrift_166 : decode cX10_thrift 166 = .ok (.iload 6, 2) := by decide +kernel
theorem dX10_thrift_168 : decode cX10_thrift 168 = .ok (.iadd, 1) := by decide +kernel
theorem dX10_thrift_169 : decode cX10_thrift 169 = .ok (.invokevirtual 246, 3) := by decide +kernel
theorem dX10_thrift_172 : decode cX10_thrift 172 = .ok (.invokevirtual 249, 3) := by decide +kernel
theorem dX10_thrift_175 : decode cX10_thrift 175 = .ok (.iinc 6 1, 3) := by decide +kernel
theorem dX10_thrift_178 : decode cX10_thrift 178 = .ok (.goto (-25), 3) := by decide +kernel
theorem dX10_thrift_181 : decode cX10_thrift 181 = .ok (.aload_n 0, 1) := by decide +kernel
theorem dX10_thrift_182 : decode cX10_thrift 182 = .ok (.aload_n 0, 1) := by decide +kernel
theorem dX10_thrift_183 : decode cX10_thrift 183 = .ok (.getfield 46, 3) := by decide +kernel
theorem dX10_thrift_186 : decode cX10_thrift 186 = .ok (.iload_n 2, 1) := by decide +kernel
theorem dX10_thrift_187 : decode cX10_thrift 187 = .ok (.iaload, 1) := by decide +kernel
theorem dX10_thrift_188 : decode cX10_thrift 188 = .ok (.ifCond .ge 8, 3) := by decide +kernel
theorem dX10_thrift_191 : decode cX10_thrift 191 = .ok (.ldc 133, 2) := by decide +kernel
theorem dX10_thrift_193 : decode cX10_thrift 193 = .ok (.goto 9, 3) := by decide +kernel
theorem dX10_thrift_196 : decode cX10_thrift 196 = .ok (.aload_n 0, 1) := by decide +kernel
theorem dX10_thrift_197 : decode cX10_thrift 197 = .ok (.getfield 46, 3) := by decide +kernel
theorem dX10_thrift_200 : decode cX10_thrift 200 = .ok (.iload_n 2, 1) := by decide +kernel
theorem dX10_thrift_201 : decode cX10_thrift 201 = .ok (.iaload, 1) := by decide +kernel
theorem dX10_thrift_202 : decode cX10_thrift 202 = .ok (.invokevirtual 83, 3) := by decide +kernel
theorem dX10_thrift_205 : decode cX10_thrift 205 = .ok (.ireturn, 1) := by decide +kernel
theorem dX10_week_0 : decode cX10_week 0 = .ok (.iconst 0, 1) := by decide +kernel
theorem dX10_week_1 : decode cX10_week 1 = .ok (.istore_n 3, 1) := by decide +kernel
theorem dX10_week_2 : decode cX10_week 2 = .ok (.iload_n 3, 1) := by decide +kernel
theorem dX10_week_3 : decode cX10_week 3 = .ok (.bipush 60, 2) := by decide +kernel
theorem dX10_week_5 : decode cX10_week 5 = .ok (.if_icmp .gt 16, 3) := by decide +kernel
theorem dX10_week_8 : decode cX10_week 8 = .ok (.aload_n 0, 1) := by decide +kernel
theorem dX10_week_9 : decode cX10_week 9 = .ok (.getfield 49, 3) := by decide +kernel
theorem dX10_week_12 : decode cX10_week 12 = .ok (.iload_n 3, 1) := by decide +kernel
theorem dX10_week_13 : decode cX10_week 13 = .ok (.iconst (-1), 1) := by decide +kernel
theorem dX10_week_14 : decode cX10_week 14 = .ok (.iastore, 1) := by decide +kernel
theorem dX10_week_15 : decode cX10_week 15 = .ok (.iinc 3 1, 3) := by decide +kernel
theorem dX10_week_18 : decode cX10_week 18 = .ok (.goto (-16), 3) := by decide +kernel
theorem dX10_week_21 : decode cX10_week 21 = .ok (.iconst 0, 1) := by decide +kernel
theorem dX10_week_22 : decode cX10_week 22 = .ok (.istore_n 3, 1) := by decide +kernel
theorem dX10_week_23 : decode cX10_week 23 = .ok (.iload_n 3, 1) := by decide +kernel
theorem dX10_week_24 : decode cX10_week 24 = .ok (.bipush 60, 2) := by decide +kernel
theorem dX10_week_26 : decode cX10_week 26 = .ok (.if_icmp .gt 124, 3) := by decide +kernel
theorem dX10_week_29 : decode cX10_week 29 = .ok (.iconst 0, 1) := by decide +kernel
theorem dX10_week_30 : decode cX10_week 30 = .ok (.istore 4, 2) := by decide +kernel
theorem dX10_week_32 : decode cX10_week 32 = .ok (.iload 4, 2) := by decide +kernel
theorem dX10_week_34 : decode cX10_week 34 = .ok (.aload_n 0, 1) := by decide +kernel
theorem dX10_week_35 : decode cX10_week 35 = .ok (.getfield 31, 3) := by decide +kernel
theorem dX10_week_38 : decode cX10_week 38 = .ok (.iconst 2, 1) := by decide +kernel
theorem dX10_week_39 : decode cX10_week 39 = .ok (.iaload, 1) := by decide +kernel
theorem dX10_week_40 : decode cX10_week 40 = .ok (.if_icmp .gt 104, 3) := by decide +kernel
theorem dX10_week_43 : decode cX10_week 43 = .ok (.iload_n 3, 1) := by decide +kernel
theorem dX10_week_44 : decode cX10_week 44 = .ok (.iload 4, 2) := by decide +kernel
theorem dX10_week_46 : decode cX10_week 46 = .ok (.iadd, 1) := by decide +kernel
theorem dX10_week_47 : decode cX10_week 47 = .ok (.bipush 60, 2) := by decide +kernel
theorem dX10_week_49 : decode cX10_week 49 = .ok (.if_icmp .gt 95, 3) := by decide +kernel
theorem dX10_week_52 : decode cX10_week 52 = .ok (.aload_n 0, 1) := by decide +kernel
theorem dX10_week_53 : decode cX10_week 53 = .ok (.getfield 46, 3) := by decide +kernel
theorem dX10_week_56 : decode cX10_week 56 = .ok (.iload_n 3, 1) := by decide +kernel
theorem dX10_week_57 : decode cX10_week 57 = .ok (.iaload, 1) := by decide +kernel
theorem dX10_week_58 : decode cX10_week 58 = .ok (.iload 4, 2) := by decide +kernel
theorem dX10_week_60 : decode cX10_week 60 = .ok (.iload_n 2, 1) := by decide +kernel
theorem dX10_week_61 : decode cX10_week 61 = .ok (.imul, 1) := by decide +kernel
theorem dX10_week_62 : decode cX10_week 62 = .ok (.isub, 1) := by decide +kernel
theorem dX10_week_63 : decode cX10_week 63 = .ok (.istore 5, 2) := by decide +kernel
theorem dX10_week_65 : decode cX10_week 65 = .ok (.aload_n 0, 1) := by decide +kernel
theorem dX10_week_66 : decode cX10_week 66 = .ok (.getfield 46, 3) := by decide +kernel
theorem dX10_week_69 : decode cX10_week 69 = .ok (.iload_n 3, 1) := by decide +kernel
theorem dX10_week_70 : decode cX10_week 70 = .ok (.iaload, 1) := by decide +kernel
theorem dX10_week_71 : decode cX10_week 71 = .ok (.ifCond .lt 8, 3) := by decide +kernel
theorem dX10_week_74 : decode cX10_week 74 = .ok (.iload 5, 2) := by decide +kernel
theorem dX10_week_76 : decode cX10_week 76 = .ok (.ifCond .ge 7, 3) := by decide +kernel
theorem dX10_week_79 : decode cX10_week 79 = .ok (.iconst (-1), 1) := by decide +kernel
theorem dX10_week_80 : decode cX10_week 80 = .ok (.goto 19, 3) := by decide +kernel
theorem dX10_week_83 : decode cX10_week 83 = .ok (.iload 5, 2) := by decide +kernel
theorem dX10_week_85 : decode cX10_week 85 = .ok (.aload_n 0, 1) := by decide +kernel
theorem dX10_week_86 : decode cX10_week 86 = .ok (.getfield 31, 3) := by decide +kernel
theorem dX10_week_89 : decode cX10_week 89 = .ok (.iconst 3, 1) := by decide +kernel
theorem dX10_week_90 : decode cX10_week 90 = .ok (.iload_n 1, 1) := by decide +kernel
theorem dX10_week_91 : decode cX10_week 91 = .ok (.iadd, 1) := by decide +kernel
theorem dX10_week_92 : decode cX10_week 92 = .ok (.iaload, 1) := by decide +kernel
theorem dX10_week_93 : decode cX10_week 93 = .ok (.iadd, 1) := by decide +kernel
theorem dX10_week_94 : decode cX10_week 94 = .ok (.bipush 99, 2) := by decide +kernel
theorem dX10_week_96 : decode cX10_week 96 = .ok (.invokestatic 187, 3) := by decide +kernel
theorem dX10_week_99 : decode cX10_week 99 = .ok (.istore 6, 2) := by decide +kernel
theorem dX10_week_101 : decode cX10_week 101 = .ok (.aload_n 0, 1) := by decide +kernel
theorem dX10_week_102 : decode cX10_week 102 = .ok (.getfield 49, 3) := by decide +kernel
theorem dX10_week_105 : decode cX10_week 105 = .ok (.iload_n 3, 1) := by decide +kernel
theorem dX10_week_106 : decode cX10_week 106 = .ok (.iload 4, 2) := by decide +kernel
theorem dX10_week_108 : decode cX10_week 108 = .ok (.iadd, 1) := by decide +kernel
theorem dX10_week_109 : decode cX10_week 109 = .ok (.iload 6, 2) := by decide +kernel
theorem dX10_week_111 : decode cX10_week 111 = .ok (.aload_n 0, 1) := by decide +kernel
theorem dX10_week_112 : decode cX10_week 112 = .ok (.getfield 49, 3) := by decide +kernel
theorem dX10_week_115 : decode cX10_week 115 = .ok (.iload_n 3, 1) := by decide +kernel
theorem dX10_week_116 : decode cX10_week 116 = .ok (.iload 4, 2) := by decide +kernel
theorem dX10_week_118 : decode cX10_week 118 = .ok (.iadd, 1) := by decide +kernel
theorem dX10_week_119 : decode cX10_week 119 = .ok (.iaload, 1) := by decide +kernel
theorem dX10_week_120 : decode cX10_week 120 = .ok (.if_icmp .le 8, 3) := by decide +kernel
theorem dX10_week_123 : decode cX10_week 123 = .ok (.iload 6, 2) := by decide +kernel
theorem dX10_week_125 : decode cX10_week 125 = .ok (.goto 12, 3) := by decide +kernel
theorem dX10_week_128 : decode cX10_week 128 = .ok (.aload_n 0, 1) := by decide +kernel
theorem dX10_week_129 : decode cX10_week 129 = .ok (.getfield 49, 3) := by decide +kernel
theorem dX10_week_132 : decode cX10_week 132 = .ok (.iload_n 3, 1) := by decide +kernel
theorem dX10_week_133 : decode cX10_week 133 = .ok (.iload 4, 2) := by decide +kernel
theorem dX10_week_135 : decode cX10_week 135 = .ok (.iadd, 1) := by decide +kernel
theorem dX10_week_136 : decode cX10_week 136 = .ok (.iaload, 1) := by decide +kernel
theorem dX10_week_137 : decode cX10_week 137 = .ok (.iastore, 1) := by decide +kernel
theorem dX10_week_138 : decode cX10_week 138 = .ok (.iinc 4 1, 3) := by decide +kernel
theorem dX10_week_141 : decode cX10_week 141 = .ok (.goto (-109), 3) := by decide +kernel
theorem dX10_week_144 : decode cX10_week 144 = .ok (.iinc 3 1, 3) := by decide +kernel
theorem dX10_week_147 : decode cX10_week 147 = .ok (.goto (-124), 3) := by decide +kernel
theorem dX10_week_150 : decode cX10_week 150 = .ok (.iconst 0, 1) := by decide +kernel
theorem dX10_week_151 : decode cX10_week 151 = .ok (.istore_n 3, 1) := by decide +kernel
theorem dX10_week_152 : decode cX10_week 152 = .ok (.iload_n 3, 1) := by decide +kernel
theorem dX10_week_153 : decode cX10_week 153 = .ok (.bipush 60, 2) := by decide +kernel
theorem dX10_week_155 : decode cX10_week 155 = .ok (.if_icmp .gt 21, 3) := by decide +kernel
theorem dX10_week_158 : decode cX10_week 158 = .ok (.aload_n 0, 1) := by decide +kernel
theorem dX10_week_159 : decode cX10_week 159 = .ok (.getfield 46, 3) := by decide +kernel
theorem dX10_week_162 : decode cX10_week 162 = .ok (.iload_n 3, 1) := by decide +kernel
theorem dX10_week_163 : decode cX10_week 163 = .ok (.aload_n 0, 1) := by decide +kernel
theorem dX10_week_164 : decode cX10_week 164 = .ok (.getfield 49, 3) := by decide +kernel
theorem dX10_week_167 : decode cX10_week 167 = .ok (.iload_n 3, 1) := by decide +kernel
theorem dX10_week_168 : decode cX10_week 168 = .ok (.iaload, 1) := by decide +kernel
theorem dX10_week_169 : decode cX10_week 169 = .ok (.iastore, 1) := by decide +kernel
theorem dX10_week_170 : decode cX10_week 170 = .ok (.iinc 3 1, 3) := by decide +kernel
theorem dX10_week_173 : decode cX10_week 173 = .ok (.goto (-21), 3) := by decide +kernel
theorem dX10_week_176 : decode cX10_week 176 = .ok (.return_, 1) := by decide +kernel
theorem dX10_isNoted_0 : decode cX10_isNoted 0 = .ok (.aload_n 0, 1) := by decide +kernel
theorem dX10_isNoted_1 : decode cX10_isNoted 1 = .ok (.iload_n 1, 1) := by decide +kernel
theorem dX10_isNoted_2 : decode cX10_isNoted 2 = .ok (.iload_n 2, 1) := by decide +kernel
theorem dX10_isNoted_3 : decode cX10_isNoted 3 = .ok (.iconst 0, 1) := by decide +kernel
theorem dX10_isNoted_4 : decode cX10_isNoted 4 = .ok (.invokevirtual 180, 3) := by decide +kernel
theorem dX10_isNoted_7 : decode cX10_isNoted 7 = .ok (.istore 6, 2) := by decide +kernel
theorem dX10_isNoted_9 : decode cX10_isNoted 9 = .ok (.iconst 1, 1) := by decide +kernel
theorem dX10_isNoted_10 : decode cX10_isNoted 10 = .ok (.istore 7, 2) := by decide +kernel
theorem dX10_isNoted_12 : decode cX10_isNoted 12 = .ok (.iconst 0, 1) := by decide +kernel
theorem dX10_isNoted_13 : decode cX10_isNoted 13 = .ok (.istore 8, 2) := by decide +kernel
theorem dX10_isNoted_15 : decode cX10_isNoted 15 = .ok (.iload 8, 2) := by decide +kernel
theorem dX10_isNoted_17 : decode cX10_isNoted 17 = .ok (.iload 5, 2) := by decide +kernel
theorem dX10_isNoted_19 : decode cX10_isNoted 19 = .ok (.if_icmp .ge 49, 3) := by decide +kernel
theorem dX10_isNoted_22 : decode cX10_isNoted 22 = .ok (.aload_n 0, 1) := by decide +kernel
theorem dX10_isNoted_23 : decode cX10_isNoted 23 = .ok (.iload_n 1, 1) := by decide +kernel
theorem dX10_isNoted_24 : decode cX10_isNoted 24 = .ok (.iload 6, 2) := by decide +kernel
theorem dX10_isNoted_26 : decode cX10_isNoted 26 = .ok (.iconst 0, 1) := by decide +kernel
theorem dX10_isNoted_27 : decode cX10_isNoted 27 = .ok (.invokevirtual 184, 3) := by decide +kernel
theorem dX10_isNoted_30 : decode cX10_isNoted 30 = .ok (.istore 6, 2) := by decide +kernel
theorem dX10_isNoted_32 : decode cX10_isNoted 32 = .ok (.iload 7, 2) := by decide +kernel
theorem dX10_isNoted_34 : decode cX10_isNoted 34 = .ok (.ifCond .eq 25, 3) := by decide +kernel
theorem dX10_isNoted_37 : decode cX10_isNoted 37 = .ok (.iload 6, 2) := by decide +kernel
theorem dX10_isNoted_39 : decode cX10_isNoted 39 = .ok (.invokestatic 234, 3) := by decide +kernel
theorem dX10_isNoted_42 : decode cX10_isNoted 42 = .ok (.aload_n 0, 1) := by decide +kernel
theorem dX10_isNoted_43 : decode cX10_isNoted 43 = .ok (.iload_n 3, 1) := by decide +kernel
theorem dX10_isNoted_44 : decode cX10_isNoted 44 = .ok (.iload 4, 2) := by decide +kernel
theorem dX10_isNoted_46 : decode cX10_isNoted 46 = .ok (.iload 8, 2) := by decide +kernel
theorem dX10_isNoted_48 : decode cX10_isNoted 48 = .ok (.iadd, 1) := by decide +kernel
theorem dX10_isNoted_49 : decode cX10_isNoted 49 = .ok (.invokevirtual 246, 3) := by decide +kernel
theorem dX10_isNoted_52 : decode cX10_isNoted 52 = .ok (.if_icmp .ne 7, 3) := by decide +kernel
theorem dX10_isNoted_55 : decode cX10_isNoted 55 = .ok (.iconst 1, 1) := by decide +kernel
theorem dX10_isNoted_56 : decode cX10_isNoted 56 = .ok (.goto 4, 3) := by decide +kernel
theorem dX10_isNoted_59 : decode cX10_isNoted 59 = .ok (.iconst 0, 1) := by decide +kernel
theorem dX10_isNoted_60 : decode cX10_isNoted 60 = .ok (.istore 7, 2) := by decide +kernel
theorem dX10_isNoted_62 : decode cX10_isNoted 62 = .ok (.iinc 8 1, 3) := by decide +kernel
theorem dX10_isNoted_65 : decode cX10_isNoted 65 = .ok (.goto (-50), 3) := by decide +kernel
theorem dX10_isNoted_68 : decode cX10_isNoted 68 = .ok (.iload 7, 2) := by decide +kernel
theorem dX10_isNoted_70 : decode cX10_isNoted 70 = .ok (.ireturn, 1) := by decide +kernel
theorem dX10_who_0 : decode cX10_who 0 = .ok (.aload_n 0, 1) := by decide +kernel
theorem dX10_who_1 : decode cX10_who 1 = .ok (.iload_n 1, 1) := by decide +kernel
theorem dX10_who_2 : decode cX10_who 2 = .ok (.invokevirtual 205, 3) := by decide +kernel
theorem dX10_who_5 : decode cX10_who 5 = .ok (.ifCond .eq 30, 3) := by decide +kernel
theorem dX10_who_8 : decode cX10_who 8 = .ok (.iload_n 2, 1) := by decide +kernel
theorem dX10_who_9 : decode cX10_who 9 = .ok (.iconst 0, 1) := by decide +kernel
theorem dX10_who_10 : decode cX10_who 10 = .ok (.iconst 1, 1) := by decide +kernel
theorem dX10_who_11 : decode cX10_who 11 = .ok (.invokestatic 70, 3) := by decide +kernel
theorem dX10_who_14 : decode cX10_who 14 = .ok (.ifCond .eq 21, 3) := by decide +kernel
theorem dX10_who_17 : decode cX10_who 17 = .ok (.iload_n 3, 1) := by decide +kernel
theorem dX10_who_18 : decode cX10_who 18 = .ok (.invokestatic 74, 3) := by decide +kernel
theorem dX10_who_21 : decode cX10_who 21 = .ok (.ifCond .eq 14, 3) := by decide +kernel
theorem dX10_who_24 : decode cX10_who 24 = .ok (.iload 5, 2) := by decide +kernel
theorem dX10_who_26 : decode cX10_who 26 = .ok (.iconst 1, 1) := by decide +kernel
theorem dX10_who_27 : decode cX10_who 27 = .ok (.bipush 12, 2) := by decide +kernel
theorem dX10_who_29 : decode cX10_who 29 = .ok (.invokestatic 70, 3) := by decide +kernel
theorem dX10_who_32 : decode cX10_who 32 = .ok (.ifCond .ne 6, 3) := by decide +kernel
theorem dX10_who_35 : decode cX10_who 35 = .ok (.ldc 78, 2) := by decide +kernel
theorem dX10_who_37 : decode cX10_who 37 = .ok (.ireturn, 1) := by decide +kernel
theorem dX10_who_38 : decode cX10_who 38 = .ok (.aload_n 0, 1) := by decide +kernel
theorem dX10_who_39 : decode cX10_who 39 = .ok (.getfield 7, 3) := by decide +kernel
theorem dX10_who_42 : decode cX10_who 42 = .ok (.iload_n 3, 1) := by decide +kernel
theorem dX10_who_43 : decode cX10_who 43 = .ok (.iaload, 1) := by decide +kernel
theorem dX10_who_44 : decode cX10_who 44 = .ok (.ifCond .ge 9, 3) := by decide +kernel
theorem dX10_who_47 : decode cX10_who 47 = .ok (.aload_n 0, 1) := by decide +kernel
theorem dX10_who_48 : decode cX10_who 48 = .ok (.iconst 1, 1) := by decide +kernel
theorem dX10_who_49 : decode cX10_who 49 = .ok (.invokevirtual 79, 3) := by decide +kernel
theorem dX10_who_52 : decode cX10_who 52 = .ok (.ireturn, 1) := by decide +kernel
theorem dX10_who_53 : decode cX10_who 53 = .ok (.aload_n 0, 1) := by decide +kernel
theorem dX10_who_54 : decode cX10_who 54 = .ok (.iload_n 3, 1) := by decide +kernel
theorem dX10_who_55 : decode cX10_who 55 = .ok (.iload 4, 2) := by decide +kernel
theorem dX10_who_57 : decode cX10_who 57 = .ok (.iload 5, 2) := by decide +kernel
theorem dX10_who_59 : decode cX10_who 59 = .ok (.invokevirtual 86, 3) := by decide +kernel
theorem dX10_who_62 : decode cX10_who 62 = .ok (.ifCond .ne 9, 3) := by decide +kernel
theorem dX10_who_65 : decode cX10_who 65 = .ok (.aload_n 0, 1) := by decide +kernel
theorem dX10_who_66 : decode cX10_who 66 = .ok (.iconst 2, 1) := by decide +kernel
theorem dX10_who_67 : decode cX10_who 67 = .ok (.invokevirtual 79, 3) := by decide +kernel
theorem dX10_who_70 : decode cX10_who 70 = .ok (.ireturn, 1) := by decide +kernel
theorem dX10_who_71 : decode cX10_who 71 = .ok (.iconst 0, 1) := by decide +kernel
theorem dX10_who_72 : decode cX10_who 72 = .ok (.istore 6, 2) := by decide +kernel
theorem dX10_who_74 : decode cX10_who 74 = .ok (.iconst 0, 1) := by decide +kernel
theorem dX10_who_75 : decode cX10_who 75 = .ok (.istore 7, 2) := by decide +kernel
theorem dX10_who_77 : decode cX10_who 77 = .ok (.iload 7, 2) := by decide +kernel
theorem dX10_who_79 : decode cX10_who 79 = .ok (.bipush 6, 2) := by decide +kernel
theorem dX10_who_81 : decode cX10_who 81 = .ok (.if_icmp .ge 106, 3) := by decide +kernel
theorem dX10_who_84 : decode cX10_who 84 = .ok (.iload_n 2, 1) := by decide +kernel
theorem dX10_who_85 : decode cX10_who 85 = .ok (.ifCond .ne 39, 3) := by decide +kernel
theorem dX10_who_88 : decode cX10_who 88 = .ok (.iload 7, 2) := by decide +kernel
theorem dX10_who_90 : decode cX10_who 90 = .ok (.ifCond .le 30, 3) := by decide +kernel
theorem dX10_who_93 : decode cX10_who 93 = .ok (.aload_n 0, 1) := by decide +kernel
theorem dX10_who_94 : decode cX10_who 94 = .ok (.iload 7, 2) := by decide +kernel
theorem dX10_who_96 : decode cX10_who 96 = .ok (.aload_n 0, 1) := by decide +kernel
theorem dX10_who_97 : decode cX10_who 97 = .ok (.getfield 31, 3) := by decide +kernel
theorem dX10_who_100 : decode cX10_who 100 = .ok (.bipush 14, 2) := by decide +kernel
theorem dX10_who_102 : decode cX10_who 102 = .ok (.iload_n 1, 1) := by decide +kernel
theorem dX10_who_103 : decode cX10_who 103 = .ok (.iadd, 1) := by decide +kernel
theorem dX10_who_104 : decode cX10_who 104 = .ok (.iaload, 1) := by decide +kernel
theorem dX10_who_105 : decode cX10_who 105 = .ok (.iload_n 3, 1) := by decide +kernel
theorem dX10_who_106 : decode cX10_who 106 = .ok (.iload 4, 2) := by decide +kernel
theorem dX10_who_108 : decode cX10_who 108 = .ok (.iload 5, 2) := by decide +kernel
theorem dX10_who_110 : decode cX10_who 110 = .ok (.invokevirtual 253, 3) := by decide +kernel
theorem dX10_who_113 : decode cX10_who 113 = .ok (.ifCond .eq 7, 3) := by decide +kernel
theorem dX10_who_116 : decode cX10_who 116 = .ok (.iconst 1, 1) := by decide +kernel
theorem dX10_who_117 : decode cX10_who 117 = .ok (.goto 44, 3) := by decide +kernel
theorem dX10_who_120 : decode cX10_who 120 = .ok (.iconst 0, 1) := by decide +kernel
theorem dX10_who_121 : decode cX10_who 121 = .ok (.goto 40, 3) := by decide +kernel
theorem dX10_who_124 : decode cX10_who 124 = .ok (.aload_n 0, 1) := by decide +kernel
theorem dX10_who_125 : decode cX10_who 125 = .ok (.iload 7, 2) := by decide +kernel
theorem dX10_who_127 : decode cX10_who 127 = .ok (.invokevirtual 215, 3) := by decide +kernel
theorem dX10_who_130 : decode cX10_who 130 = .ok (.ifCond .eq 30, 3) := by decide +kernel
theorem dX10_who_133 : decode cX10_who 133 = .ok (.aload_n 0, 1) := by decide +kernel
theorem dX10_who_134 : decode cX10_who 134 = .ok (.aload_n 0, 1) := by decide +kernel
theorem dX10_who_135 : decode cX10_who 135 = .ok (.getfield 31, 3) := by decide +kernel
theorem dX10_who_138 : decode cX10_who 138 = .ok (.bipush 8, 2) := by decide +kernel
theorem dX10_who_140 : decode cX10_who 140 = .ok (.iload_n 1, 1) := by decide +kernel
theorem dX10_who_141 : decode cX10_who 141 = .ok (.iadd, 1) := by decide +kernel
theorem dX10_who_142 : decode cX10_who 142 = .ok (.iaload, 1) := by decide +kernel
theorem dX10_who_143 : decode cX10_who 143 = .ok (.iload 7, 2) := by decide +kernel
theorem dX10_who_145 : decode cX10_who 145 = .ok (.iload_n 3, 1) := by decide +kernel
theorem dX10_who_146 : decode cX10_who 146 = .ok (.iload 4, 2) := by decide +kernel
theorem dX10_who_148 : decode cX10_who 148 = .ok (.iload 5, 2) := by decide +kernel
theorem dX10_who_150 : decode cX10_who 150 = .ok (.invokevirtual 253, 3) := by decide +kernel
theorem dX10_who_153 : decode cX10_who 153 = .ok (.ifCond .eq 7, 3) := by decide +kernel
theorem dX10_who_156 : decode cX10_who 156 = .ok (.iconst 1, 1) := by decide +kernel
theorem dX10_who_157 : decode cX10_who 157 = .ok (.goto 4, 3) := by decide +kernel
theorem dX10_who_160 : decode cX10_who 160 = .ok (.iconst 0, 1) := by decide +kernel
theorem dX10_who_161 : decode cX10_who 161 = .ok (.istore 8, 2) := by decide +kernel
theorem dX10_who_163 : decode cX10_who 163 = .ok (.iload 6, 2) := by decide +kernel
theorem dX10_who_165 : decode cX10_who 165 = .ok (.iload 8, 2) := by decide +kernel
theorem dX10_who_167 : decode cX10_who 167 = .ok (.ifCond .eq 10, 3) := by decide +kernel
theorem dX10_who_170 : decode cX10_who 170 = .ok (.iconst 1, 1) := by decide +kernel
theorem dX10_who_171 : decode cX10_who 171 = .ok (.iload 7, 2) := by decide +kernel
theorem dX10_who_173 : decode cX10_who 173 = .ok (.ishl, 1) := by decide +kernel
theorem dX10_who_174 : decode cX10_who 174 = .ok (.goto 4, 3) := by decide +kernel
theorem dX10_who_177 : decode cX10_who 177 = .ok (.iconst 0, 1) := by decide +kernel
theorem dX10_who_178 : decode cX10_who 178 = .ok (.ior, 1) := by decide +kernel
theorem dX10_who_179 : decode cX10_who 179 = .ok (.istore 6, 2) := by decide +kernel
theorem dX10_who_181 : decode cX10_who 181 = .ok (.iinc 7 1, 3) := by decide +kernel
theorem dX10_who_184 : decode cX10_who 184 = .ok (.goto (-107), 3) := by decide +kernel
theorem dX10_who_187 : decode cX10_who 187 = .ok (.aload_n 0, 1) := by decide +kernel
theorem dX10_who_188 : decode cX10_who 188 = .ok (.iload 6, 2) := by decide +kernel
theorem dX10_who_190 : decode cX10_who 190 = .ok (.invokevirtual 83, 3) := by decide +kernel
theorem dX10_who_193 : decode cX10_who 193 = .ok (.ireturn, 1) := by decide +kernel
theorem dX10_priced_0 : decode cX10_priced 0 = .ok (.iload_n 1, 1) := by decide +kernel
theorem dX10_priced_1 : decode cX10_priced 1 = .ok (.invokestatic 74, 3) := by decide +kernel
theorem dX10_priced_4 : decode cX10_priced 4 = .ok (.ifCond .eq 21, 3) := by decide +kernel
theorem dX10_priced_7 : decode cX10_priced 7 = .ok (.iload_n 3, 1) := by decide +kernel
theorem dX10_priced_8 : decode cX10_priced 8 = .ok (.invokestatic 74, 3) := by decide +kernel
theorem dX10_priced_11 : decode cX10_priced 11 = .ok (.ifCond .eq 14, 3) := by decide +kernel
theorem dX10_priced_14 : decode cX10_priced 14 = .ok (.iload 5, 2) := by decide +kernel
theorem dX10_priced_16 : decode cX10_priced 16 = .ok (.iconst 1, 1) := by decide +kernel
theorem dX10_priced_17 : decode cX10_priced 17 = .ok (.bipush 12, 2) := by decide +kernel
theorem dX10_priced_19 : decode cX10_priced 19 = .ok (.invokestatic 70, 3) := by decide +kernel
theorem dX10_priced_22 : decode cX10_priced 22 = .ok (.ifCond .ne 6, 3) := by decide +kernel
theorem dX10_priced_25 : decode cX10_priced 25 = .ok (.ldc 78, 2) := by decide +kernel
theorem dX10_priced_27 : decode cX10_priced 27 = .ok (.ireturn, 1) := by decide +kernel
theorem dX10_priced_28 : decode cX10_priced 28 = .ok (.aload_n 0, 1) := by decide +kernel
theorem dX10_priced_29 : decode cX10_priced 29 = .ok (.getfield 7, 3) := by decide +kernel
theorem dX10_priced_32 : decode cX10_priced 32 = .ok (.iload_n 1, 1) := by decide +kernel
theorem dX10_priced_33 : decode cX10_priced 33 = .ok (.iaload, 1) := by decide +kernel
theorem dX10_priced_34 : decode cX10_priced 34 = .ok (.ifCond .ge 9, 3) := by decide +kernel
theorem dX10_priced_37 : decode cX10_priced 37 = .ok (.aload_n 0, 1) := by decide +kernel
theorem dX10_priced_38 : decode cX10_priced 38 = .ok (.iconst 1, 1) := by decide +kernel
theorem dX10_priced_39 : decode cX10_priced 39 = .ok (.invokevirtual 79, 3) := by decide +kernel
theorem dX10_priced_42 : decode cX10_priced 42 = .ok (.ireturn, 1) := by decide +kernel
theorem dX10_priced_43 : decode cX10_priced 43 = .ok (.aload_n 0, 1) := by decide +kernel
theorem dX10_priced_44 : decode cX10_priced 44 = .ok (.iload_n 1, 1) := by decide +kernel
theorem dX10_priced_45 : decode cX10_priced 45 = .ok (.iload_n 2, 1) := by decide +kernel
theorem dX10_priced_46 : decode cX10_priced 46 = .ok (.iload 5, 2) := by decide +kernel
theorem dX10_priced_48 : decode cX10_priced 48 = .ok (.invokevirtual 86, 3) := by decide +kernel
theorem dX10_priced_51 : decode cX10_priced 51 = .ok (.ifCond .ne 9, 3) := by decide +kernel
theorem dX10_priced_54 : decode cX10_priced 54 = .ok (.aload_n 0, 1) := by decide +kernel
theorem dX10_priced_55 : decode cX10_priced 55 = .ok (.iconst 2, 1) := by decide +kernel
theorem dX10_priced_56 : decode cX10_priced 56 = .ok (.invokevirtual 79, 3) := by decide +kernel
theorem dX10_priced_59 : decode cX10_priced 59 = .ok (.ireturn, 1) := by decide +kernel
theorem dX10_priced_60 : decode cX10_priced 60 = .ok (.aload_n 0, 1) := by decide +kernel
theorem dX10_priced_61 : decode cX10_priced 61 = .ok (.getfield 7, 3) := by decide +kernel
theorem dX10_priced_64 : decode cX10_priced 64 = .ok (.iload_n 3, 1) := by decide +kernel
theorem dX10_priced_65 : decode cX10_priced 65 = .ok (.iaload, 1) := by decide +kernel
theorem dX10_priced_66 : decode cX10_priced 66 = .ok (.ifCond .ge 9, 3) := by decide +kernel
theorem dX10_priced_69 : decode cX10_priced 69 = .ok (.aload_n 0, 1) := by decide +kernel
theorem dX10_priced_70 : decode cX10_priced 70 = .ok (.iconst 1, 1) := by decide +kernel
theorem dX10_priced_71 : decode cX10_priced 71 = .ok (.invokevirtual 79, 3) := by decide +kernel
theorem dX10_priced_74 : decode cX10_priced 74 = .ok (.ireturn, 1) := by decide +kernel
theorem dX10_priced_75 : decode cX10_priced 75 = .ok (.aload_n 0, 1) := by decide +kernel
theorem dX10_priced_76 : decode cX10_priced 76 = .ok (.iload_n 3, 1) := by decide +kernel
theorem dX10_priced_77 : decode cX10_priced 77 = .ok (.iload 4, 2) := by decide +kernel
theorem dX10_priced_79 : decode cX10_priced 79 = .ok (.iload 5, 2) := by decide +kernel
theorem dX10_priced_81 : decode cX10_priced 81 = .ok (.invokevirtual 86, 3) := by decide +kernel
theorem dX10_priced_84 : decode cX10_priced 84 = .ok (.ifCond .ne 9, 3) := by decide +kernel
theorem dX10_priced_87 : decode cX10_priced 87 = .ok (.aload_n 0, 1) := by decide +kernel
theorem dX10_priced_88 : decode cX10_priced 88 = .ok (.iconst 2, 1) := by decide +kernel
theorem dX10_priced_89 : decode cX10_priced 89 = .ok (.invokevirtual 79, 3) := by decide +kernel
theorem dX10_priced_92 : decode cX10_priced 92 = .ok (.ireturn, 1) := by decide +kernel
theorem dX10_priced_93 : decode cX10_priced 93 = .ok (.iconst 0, 1) := by decide +kernel
theorem dX10_priced_94 : decode cX10_priced 94 = .ok (.istore 6, 2) := by decide +kernel
theorem dX10_priced_96 : decode cX10_priced 96 = .ok (.iconst 0, 1) := by decide +kernel
theorem dX10_priced_97 : decode cX10_priced 97 = .ok (.istore 7, 2) := by decide +kernel
theorem dX10_priced_99 : decode cX10_priced 99 = .ok (.iload 7, 2) := by decide +kernel
theorem dX10_priced_101 : decode cX10_priced 101 = .ok (.iload 5, 2) := by decide +kernel
theorem dX10_priced_103 : decode cX10_priced 103 = .ok (.if_icmp .ge 78, 3) := by decide +kernel
theorem dX10_priced_106 : decode cX10_priced 106 = .ok (.aload_n 0, 1) := by decide +kernel
theorem dX10_priced_107 : decode cX10_priced 107 = .ok (.iload_n 1, 1) := by decide +kernel
theorem dX10_priced_108 : decode cX10_priced 108 = .ok (.iload_n 2, 1) := by decide +kernel
theorem dX10_priced_109 : decode cX10_priced 109 = .ok (.iload 7, 2) := by decide +kernel
theorem dX10_priced_111 : decode cX10_priced 111 = .ok (.iadd, 1) := by decide +kernel
theorem dX10_priced_112 : decode cX10_priced 112 = .ok (.invokevirtual 246, 3) := by decide +kernel
theorem dX10_priced_115 : decode cX10_priced 115 = .ok (.iconst 0, 1) := by decide +kernel
theorem dX10_priced_116 : decode cX10_priced 116 = .ok (.sipush 999, 3) := by decide +kernel
theorem dX10_priced_119 : decode cX10_priced 119 = .ok (.invokestatic 70, 3) := by decide +kernel
theorem dX10_priced_122 : decode cX10_priced 122 = .ok (.ifCond .eq 22, 3) := by decide +kernel
theorem dX10_priced_125 : decode cX10_priced 125 = .ok (.aload_n 0, 1) := by decide +kernel
theorem dX10_priced_126 : decode cX10_priced 126 = .ok (.iload_n 3, 1) := by decide +kernel
theorem dX10_priced_127 : decode cX10_priced 127 = .ok (.iload 4, 2) := by decide +kernel
theorem dX10_priced_129 : decode cX10_priced 129 = .ok (.iload 7, 2) := by decide +kernel
theorem dX10_priced_131 : decode cX10_priced 131 = .ok (.iadd, 1) := by decide +kernel
theorem dX10_priced_132 : decode cX10_priced 132 = .ok (.invokevirtual 246, 3) := by decide +kernel
theorem dX10_priced_135 : decode cX10_priced 135 = .ok (.iconst 1, 1) := by decide +kernel
theorem dX10_priced_136 : decode cX10_priced 136 = .ok (.bipush 9, 2) := by decide +kernel
theorem dX10_priced_138 : decode cX10_priced 138 = .ok (.invokestatic 70, 3) := by decide +kernel
theorem dX10_priced_141 : decode cX10_priced 141 = .ok (.ifCond .ne 9, 3) := by decide +kernel
theorem dX10_priced_144 : decode cX10_priced 144 = .ok (.aload_n 0, 1) := by decide +kernel
theorem dX10_priced_145 : decode cX10_priced 145 = .ok (.iconst 3, 1) := by decide +kernel
theorem dX10_priced_146 : decode cX10_priced 146 = .ok (.invokevirtual 79, 3) := by decide +kernel
theorem dX10_priced_149 : decode cX10_priced 149 = .ok (.ireturn, 1) := by decide +kernel
theorem dX10_priced_150 : decode cX10_priced 150 = .ok (.iload 6, 2) := by decide +kernel
theorem dX10_priced_152 : decode cX10_priced 152 = .ok (.aload_n 0, 1) := by decide +kernel
theorem dX10_priced_153 : decode cX10_priced 153 = .ok (.iload_n 1, 1) := by decide +kernel
theorem dX10_priced_154 : decode cX10_priced 154 = .ok (.iload_n 2, 1) := by decide +kernel
theorem dX10_priced_155 : decode cX10_priced 155 = .ok (.iload 7, 2) := by decide +kernel
theorem dX10_priced_157 : decode cX10_priced 157 = .ok (.iadd, 1) := by decide +kernel
theorem dX10_priced_158 : decode cX10_priced 158 = .ok (.invokevirtual 246, 3) := by decide +kernel
theorem dX10_priced_161 : decode cX10_priced 161 = .ok (.aload_n 0, 1) := by decide +kernel
theorem dX10_priced_162 : decode cX10_priced 162 = .ok (.iload_n 3, 1) := by decide +kernel
theorem dX10_priced_163 : decode cX10_priced 163 = .ok (.iload 4, 2) := by decide +kernel
theorem dX10_priced_165 : decode cX10_priced 165 = .ok (.iload 7, 2) := by decide +kernel
theorem dX10_priced_167 : decode cX10_priced 167 = .ok (.iadd, 1) := by decide +kernel
theorem dX10_priced_168 : decode cX10_priced 168 = .ok (.invokevirtual 246, 3) := by decide +kernel
theorem dX10_priced_171 : decode cX10_priced 171 = .ok (.imul, 1) := by decide +kernel
theorem dX10_priced_172 : decode cX10_priced 172 = .ok (.iadd, 1) := by decide +kernel
theorem dX10_priced_173 : decode cX10_priced 173 = .ok (.istore 6, 2) := by decide +kernel
theorem dX10_priced_175 : decode cX10_priced 175 = .ok (.iinc 7 1, 3) := by decide +kernel
theorem dX10_priced_178 : decode cX10_priced 178 = .ok (.goto (-79), 3) := by decide +kernel
theorem dX10_priced_181 : decode cX10_priced 181 = .ok (.aload_n 0, 1) := by decide +kernel
theorem dX10_priced_182 : decode cX10_priced 182 = .ok (.iload 6, 2) := by decide +kernel
theorem dX10_priced_184 : decode cX10_priced 184 = .ok (.invokevirtual 83, 3) := by decide +kernel
theorem dX10_priced_187 : decode cX10_priced 187 = .ok (.ireturn, 1) := by decide +kernel
theorem dX10_common_0 : decode cX10_common 0 = .ok (.lload_n 0, 1) := by decide +kernel
theorem dX10_common_1 : decode cX10_common 1 = .ok (.lstore 4, 2) := by decide +kernel
theorem dX10_common_3 : decode cX10_common 3 = .ok (.lload_n 2, 1) := by decide +kernel
theorem dX10_common_4 : decode cX10_common 4 = .ok (.lstore 6, 2) := by decide +kernel
theorem dX10_common_6 : decode cX10_common 6 = .ok (.lload 6, 2) := by decide +kernel
theorem dX10_common_8 : decode cX10_common 8 = .ok (.lconst 0, 1) := by decide +kernel
theorem dX10_common_9 : decode cX10_common 9 = .ok (.lcmp, 1) := by decide +kernel
theorem dX10_common_10 : decode cX10_common 10 = .ok (.ifCond .eq 21, 3) := by decide +kernel
theorem dX10_common_13 : decode cX10_common 13 = .ok (.lload 4, 2) := by decide +kernel
theorem dX10_common_15 : decode cX10_common 15 = .ok (.lload 6, 2) := by decide +kernel
theorem dX10_common_17 : decode cX10_common 17 = .ok (.lrem, 1) := by decide +kernel
theorem dX10_common_18 : decode cX10_common 18 = .ok (.lstore 8, 2) := by decide +kernel
theorem dX10_common_20 : decode cX10_common 20 = .ok (.lload 6, 2) := by decide +kernel
theorem dX10_common_22 : decode cX10_common 22 = .ok (.lstore 4, 2) := by decide +kernel
theorem dX10_common_24 : decode cX10_common 24 = .ok (.lload 8, 2) := by decide +kernel
theorem dX10_common_26 : decode cX10_common 26 = .ok (.lstore 6, 2) := by decide +kernel
theorem dX10_common_28 : decode cX10_common 28 = .ok (.goto (-22), 3) := by decide +kernel
theorem dX10_common_31 : decode cX10_common 31 = .ok (.lload 4, 2) := by decide +kernel
theorem dX10_common_33 : decode cX10_common 33 = .ok (.lreturn, 1) := by decide +kernel
theorem dX10_heard_0 : decode cX10_heard 0 = .ok (.aload_n 0, 1) := by decide +kernel
theorem dX10_heard_1 : decode cX10_heard 1 = .ok (.iload_n 1, 1) := by decide +kernel
theorem dX10_heard_2 : decode cX10_heard 2 = .ok (.invokevirtual 205, 3) := by decide +kernel
theorem dX10_heard_5 : decode cX10_heard 5 = .ok (.ifCond .eq 42, 3) := by decide +kernel
theorem dX10_heard_8 : decode cX10_heard 8 = .ok (.aload_n 0, 1) := by decide +kernel
theorem dX10_heard_9 : decode cX10_heard 9 = .ok (.iload_n 2, 1) := by decide +kernel
theorem dX10_heard_10 : decode cX10_heard 10 = .ok (.invokevirtual 215, 3) := by decide +kernel
theorem dX10_heard_13 : decode cX10_heard 13 = .ok (.ifCond .eq 34, 3) := by decide +kernel
theorem dX10_heard_16 : decode cX10_heard 16 = .ok (.iload_n 3, 1) := by decide +kernel
theorem dX10_heard_17 : decode cX10_heard 17 = .ok (.iconst 0, 1) := by decide +kernel
theorem dX10_heard_18 : decode cX10_heard 18 = .ok (.bipush 30, 2) := by decide +kernel
theorem dX10_heard_20 : decode cX10_heard 20 = .ok (.invokestatic 70, 3) := by decide +kernel
theorem dX10_heard_23 : decode cX10_heard 23 = .ok (.ifCond .eq 24, 3) := by decide +kernel
theorem dX10_heard_26 : decode cX10_heard 26 = .ok (.iload 4, 2) := by decide +kernel
theorem dX10_heard_28 : decode cX10_heard 28 = .ok (.iconst 0, 1) := by decide +kernel
theorem dX10_heard_29 : decode cX10_heard 29 = .ok (.bipush 10, 2) := by decide +kernel
theorem dX10_heard_31 : decode cX10_heard 31 = .ok (.invokestatic 70, 3) := by decide +kernel
theorem dX10_heard_34 : decode cX10_heard 34 = .ok (.ifCond .eq 13, 3) := by decide +kernel
theorem dX10_heard_37 : decode cX10_heard 37 = .ok (.iload 5, 2) := by decide +kernel
theorem dX10_heard_39 : decode cX10_heard 39 = .ok (.iconst 0, 1) := by decide +kernel
theorem dX10_heard_40 : decode cX10_heard 40 = .ok (.iconst 1, 1) := by decide +kernel
theorem dX10_heard_41 : decode cX10_heard 41 = .ok (.invokestatic 70, 3) := by decide +kernel
theorem dX10_heard_44 : decode cX10_heard 44 = .ok (.ifCond .ne 7, 3) := by decide +kernel
theorem dX10_heard_47 : decode cX10_heard 47 = .ok (.ldc2_w 257, 3) := by decide +kernel
theorem dX10_heard_50 : decode cX10_heard 50 = .ok (.lreturn, 1) := by decide +kernel
theorem dX10_heard_51 : decode cX10_heard 51 = .ok (.aload_n 0, 1) := by decide +kernel
theorem dX10_heard_52 : decode cX10_heard 52 = .ok (.getfield 31, 3) := by decide +kernel
theorem dX10_heard_55 : decode cX10_heard 55 = .ok (.bipush 14, 2) := by decide +kernel
theorem dX10_heard_57 : decode cX10_heard 57 = .ok (.iload_n 1, 1) := by decide +kernel
theorem dX10_heard_58 : decode cX10_heard 58 = .ok (.iadd, 1) := by decide +kernel
theorem dX10_heard_59 : decode cX10_heard 59 = .ok (.iaload, 1) := by decide +kernel
theorem dX10_heard_60 : decode cX10_heard 60 = .ok (.istore 6, 2) := by decide +kernel
theorem dX10_heard_62 : decode cX10_heard 62 = .ok (.lconst 0, 1) := by decide +kernel
theorem dX10_heard_63 : decode cX10_heard 63 = .ok (.lstore 7, 2) := by decide +kernel
theorem dX10_heard_65 : decode cX10_heard 65 = .ok (.lconst 1, 1) := by decide +kernel
theorem dX10_heard_66 : decode cX10_heard 66 = .ok (.lstore 9, 2) := by decide +kernel
theorem dX10_heard_68 : decode cX10_heard 68 = .ok (.iconst 1, 1) := by decide +kernel
theorem dX10_heard_69 : decode cX10_heard 69 = .ok (.istore 11, 2) := by decide +kernel
theorem dX10_heard_71 : decode cX10_heard 71 = .ok (.iload 11, 2) := by decide +kernel
theorem dX10_heard_73 : decode cX10_heard 73 = .ok (.aload_n 0, 1) := by decide +kernel
theorem dX10_heard_74 : decode cX10_heard 74 = .ok (.getfield 31, 3) := by decide +kernel
theorem dX10_heard_77 : decode cX10_heard 77 = .ok (.iconst 0, 1) := by decide +kernel
theorem dX10_heard_78 : decode cX10_heard 78 = .ok (.iaload, 1) := by decide +kernel
theorem dX10_heard_79 : decode cX10_heard 79 = .ok (.if_icmp .ge 17, 3) := by decide +kernel
theorem dX10_heard_82 : decode cX10_heard 82 = .ok (.lload 9, 2) := by decide +kernel
theorem dX10_heard_84 : decode cX10_heard 84 = .ok (.ldc2_w 259, 3) := by decide +kernel
theorem dX10_heard_87 : decode cX10_heard 87 = .ok (.lmul, 1) := by decide +kernel
theorem dX10_heard_88 : decode cX10_heard 88 = .ok (.lstore 9, 2) := by decide +kernel
theorem dX10_heard_90 : decode cX10_heard 90 = .ok (.iinc 11 1, 3) := by decide +kernel
theorem dX10_heard_93 : decode cX10_heard 93 = .ok (.goto (-22), 3) := by decide +kernel
theorem dX10_heard_96 : decode cX10_heard 96 = .ok (.iconst 0, 1) := by decide +kernel
theorem dX10_heard_97 : decode cX10_heard 97 = .ok (.istore 11, 2) := by decide +kernel
theorem dX10_heard_99 : decode cX10_heard 99 = .ok (.iload 11, 2) := by decide +kernel
theorem dX10_heard_101 : decode cX10_heard 101 = .ok (.aload_n 0, 1) := by decide +kernel
theorem dX10_heard_102 : decode cX10_heard 102 = .ok (.invokevirtual 176, 3) := by decide +kernel
theorem dX10_heard_105 : decode cX10_heard 105 = .ok (.if_icmp .gt 102, 3) := by decide +kernel
theorem dX10_heard_108 : decode cX10_heard 108 = .ok (.iload 11, 2) := by decide +kernel
theorem dX10_heard_110 : decode cX10_heard 110 = .ok (.iload 6, 2) := by decide +kernel
theorem dX10_heard_112 : decode cX10_heard 112 = .ok (.invokestatic 165, 3) := by decide +kernel
theorem dX10_heard_115 : decode cX10_heard 115 = .ok (.ifCond .ne 86, 3) := by decide +kernel
theorem dX10_heard_118 : decode cX10_heard 118 = .ok (.aload_n 0, 1) := by decide +kernel
theorem dX10_heard_119 : decode cX10_heard 119 = .ok (.iload_n 1, 1) := by decide +kernel
theorem dX10_heard_120 : decode cX10_heard 120 = .ok (.iload_n 3, 1) := by decide +kernel
theorem dX10_heard_121 : decode cX10_heard 121 = .ok (.iload 11, 2) := by decide +kernel
theorem dX10_heard_123 : decode cX10_heard 123 = .ok (.invokevirtual 240, 3) := by decide +kernel
theorem dX10_heard_126 : decode cX10_heard 126 = .ok (.iload_n 2, 1) := by decide +kernel
theorem dX10_heard_127 : decode cX10_heard 127 = .ok (.invokestatic 165, 3) := by decide +kernel
theorem dX10_heard_130 : decode cX10_heard 130 = .ok (.ifCond .eq 71, 3) := by decide +kernel
theorem dX10_heard_133 : decode cX10_heard 133 = .ok (.lconst 1, 1) := by decide +kernel
theorem dX10_heard_134 : decode cX10_heard 134 = .ok (.lstore 12, 2) := by decide +kernel
theorem dX10_heard_136 : decode cX10_heard 136 = .ok (.iconst 0, 1) := by decide +kernel
theorem dX10_heard_137 : decode cX10_heard 137 = .ok (.istore 14, 2) := by decide +kernel
theorem dX10_heard_139 : decode cX10_heard 139 = .ok (.iload 14, 2) := by decide +kernel
theorem dX10_heard_141 : decode cX10_heard 141 = .ok (.aload_n 0, 1) := by decide +kernel
theorem dX10_heard_142 : decode cX10_heard 142 = .ok (.getfield 31, 3) := by decide +kernel
theorem dX10_heard_145 : decode cX10_heard 145 = .ok (.iconst 0, 1) := by decide +kernel
theorem dX10_heard_146 : decode cX10_heard 146 = .ok (.iaload, 1) := by decide +kernel
theorem dX10_heard_147 : decode cX10_heard 147 = .ok (.if_icmp .ge 47, 3) := by decide +kernel
theorem dX10_heard_150 : decode cX10_heard 150 = .ok (.lload 12, 2) := by decide +kernel
theorem dX10_heard_152 : decode cX10_heard 152 = .ok (.iload 14, 2) := by decide +kernel
theorem dX10_heard_154 : decode cX10_heard 154 = .ok (.iload 6, 2) := by decide +kernel
theorem dX10_heard_156 : decode cX10_heard 156 = .ok (.if_icmp .ne 7, 3) := by decide +kernel
theorem dX10_heard_159 : decode cX10_heard 159 = .ok (.lconst 1, 1) := by decide +kernel
theorem dX10_heard_160 : decode cX10_heard 160 = .ok (.goto 25, 3) := by decide +kernel
theorem dX10_heard_163 : decode cX10_heard 163 = .ok (.iload 11, 2) := by decide +kernel
theorem dX10_heard_165 : decode cX10_heard 165 = .ok (.iload 14, 2) := by decide +kernel
theorem dX10_heard_167 : decode cX10_heard 167 = .ok (.invokestatic 165, 3) := by decide +kernel
theorem dX10_heard_170 : decode cX10_heard 170 = .ok (.ifCond .eq 9, 3) := by decide +kernel
theorem dX10_heard_173 : decode cX10_heard 173 = .ok (.iload 4, 2) := by decide +kernel
theorem dX10_heard_175 : decode cX10_heard 175 = .ok (.i2l, 1) := by decide +kernel
theorem dX10_heard_176 : decode cX10_heard 176 = .ok (.goto 9, 3) := by decide +kernel
theorem dX10_heard_179 : decode cX10_heard 179 = .ok (.bipush 10, 2) := by decide +kernel
theorem dX10_heard_181 : decode cX10_heard 181 = .ok (.iload 4, 2) := by decide +kernel
theorem dX10_heard_183 : decode cX10_heard 183 = .ok (.isub, 1) := by decide +kernel
theorem dX10_heard_184 : decode cX10_heard 184 = .ok (.i2l, 1) := by decide +kernel
theorem dX10_heard_185 : decode cX10_heard 185 = .ok (.lmul, 1) := by decide +kernel
theorem dX10_heard_186 : decode cX10_heard 186 = .ok (.lstore 12, 2) := by decide +kernel
theorem dX10_heard_188 : decode cX10_heard 188 = .ok (.iinc 14 1, 3) := by decide +kernel
theorem dX10_heard_191 : decode cX10_heard 191 = .ok (.goto (-52), 3) := by decide +kernel
theorem dX10_heard_194 : decode cX10_heard 194 = .ok (.lload 7, 2) := by decide +kernel
theorem dX10_heard_196 : decode cX10_heard 196 = .ok (.lload 12, 2) := by decide +kernel
theorem dX10_heard_198 : decode cX10_heard 198 = .ok (.ladd, 1) := by decide +kernel
theorem dX10_heard_199 : decode cX10_heard 199 = .ok (.lstore 7, 2) := by decide +kernel
theorem dX10_heard_201 : decode cX10_heard 201 = .ok (.iinc 11 1, 3) := by decide +kernel
theorem dX10_heard_204 : decode cX10_heard 204 = .ok (.goto (-105), 3) := by decide +kernel
theorem dX10_heard_207 : decode cX10_heard 207 = .ok (.lload 7, 2) := by decide +kernel
theorem dX10_heard_209 : decode cX10_heard 209 = .ok (.lload 9, 2) := by decide +kernel
theorem dX10_heard_211 : decode cX10_heard 211 = .ok (.invokestatic 261, 3) := by decide +kernel
theorem dX10_heard_214 : decode cX10_heard 214 = .ok (.lstore 11, 2) := by decide +kernel
theorem dX10_heard_216 : decode cX10_heard 216 = .ok (.iload 5, 2) := by decide +kernel
theorem dX10_heard_218 : decode cX10_heard 218 = .ok (.ifCond .ne 11, 3) := by decide +kernel
theorem dX10_heard_221 : decode cX10_heard 221 = .ok (.lload 7, 2) := by decide +kernel
theorem dX10_heard_223 : decode cX10_heard 223 = .ok (.lload 11, 2) := by decide +kernel
theorem dX10_heard_225 : decode cX10_heard 225 = .ok (.ldiv, 1) := by decide +kernel
theorem dX10_heard_226 : decode cX10_heard 226 = .ok (.goto 8, 3) := by decide +kernel
theorem dX10_heard_229 : decode cX10_heard 229 = .ok (.lload 9, 2) := by decide +kernel
theorem dX10_heard_231 : decode cX10_heard 231 = .ok (.lload 11, 2) := by decide +kernel
theorem dX10_heard_233 : decode cX10_heard 233 = .ok (.ldiv, 1) := by decide +kernel
theorem dX10_heard_234 : decode cX10_heard 234 = .ok (.lreturn, 1) := by decide +kernel
theorem dX10_drawn_0 : decode cX10_drawn 0 = .ok (.aload_n 0, 1) := by decide +kernel
theorem dX10_drawn_1 : decode cX10_drawn 1 = .ok (.iload_n 1, 1) := by decide +kernel
theorem dX10_drawn_2 : decode cX10_drawn 2 = .ok (.invokestatic 224, 3) := by decide +kernel
theorem dX10_drawn_5 : decode cX10_drawn 5 = .ok (.ifCond .eq 27, 3) := by decide +kernel
theorem dX10_drawn_8 : decode cX10_drawn 8 = .ok (.iload_n 2, 1) := by decide +kernel
theorem dX10_drawn_9 : decode cX10_drawn 9 = .ok (.iconst 1, 1) := by decide +kernel
theorem dX10_drawn_10 : decode cX10_drawn 10 = .ok (.ldc_w 265, 3) := by decide +kernel
theorem dX10_drawn_13 : decode cX10_drawn 13 = .ok (.invokestatic 70, 3) := by decide +kernel
theorem dX10_drawn_16 : decode cX10_drawn 16 = .ok (.ifCond .eq 16, 3) := by decide +kernel
theorem dX10_drawn_19 : decode cX10_drawn 19 = .ok (.iload_n 3, 1) := by decide +kernel
theorem dX10_drawn_20 : decode cX10_drawn 20 = .ok (.iconst 0, 1) := by decide +kernel
theorem dX10_drawn_21 : decode cX10_drawn 21 = .ok (.iconst 1, 1) := by decide +kernel
theorem dX10_drawn_22 : decode cX10_drawn 22 = .ok (.invokestatic 70, 3) := by decide +kernel
theorem dX10_drawn_25 : decode cX10_drawn 25 = .ok (.ifCond .eq 7, 3) := by decide +kernel
theorem dX10_drawn_28 : decode cX10_drawn 28 = .ok (.iconst 1, 1) := by decide +kernel
theorem dX10_drawn_29 : decode cX10_drawn 29 = .ok (.goto 4, 3) := by decide +kernel
theorem dX10_drawn_32 : decode cX10_drawn 32 = .ok (.iconst 0, 1) := by decide +kernel
theorem dX10_drawn_33 : decode cX10_drawn 33 = .ok (.invokevirtual 194, 3) := by decide +kernel
theorem dX10_drawn_36 : decode cX10_drawn 36 = .ok (.istore 4, 2) := by decide +kernel
theorem dX10_drawn_38 : decode cX10_drawn 38 = .ok (.iload 4, 2) := by decide +kernel
theorem dX10_drawn_40 : decode cX10_drawn 40 = .ok (.ifCond .ge 6, 3) := by decide +kernel
theorem dX10_drawn_43 : decode cX10_drawn 43 = .ok (.iload 4, 2) := by decide +kernel
theorem dX10_drawn_45 : decode cX10_drawn 45 = .ok (.ireturn, 1) := by decide +kernel
theorem dX10_drawn_46 : decode cX10_drawn 46 = .ok (.aload_n 0, 1) := by decide +kernel
theorem dX10_drawn_47 : decode cX10_drawn 47 = .ok (.invokevirtual 221, 3) := by decide +kernel
theorem dX10_drawn_50 : decode cX10_drawn 50 = .ok (.iload_n 2, 1) := by decide +kernel
theorem dX10_drawn_51 : decode cX10_drawn 51 = .ok (.i2l, 1) := by decide +kernel
theorem dX10_drawn_52 : decode cX10_drawn 52 = .ok (.lstore 5, 2) := by decide +kernel
theorem dX10_drawn_54 : decode cX10_drawn 54 = .ok (.iconst 0, 1) := by decide +kernel
theorem dX10_drawn_55 : decode cX10_drawn 55 = .ok (.istore 7, 2) := by decide +kernel
theorem dX10_drawn_57 : decode cX10_drawn 57 = .ok (.iload 7, 2) := by decide +kernel
theorem dX10_drawn_59 : decode cX10_drawn 59 = .ok (.iload_n 1, 1) := by decide +kernel
theorem dX10_drawn_60 : decode cX10_drawn 60 = .ok (.if_icmp .ge 66, 3) := by decide +kernel
theorem dX10_drawn_63 : decode cX10_drawn 63 = .ok (.lload 5, 2) := by decide +kernel
theorem dX10_drawn_65 : decode cX10_drawn 65 = .ok (.ldc2_w 266, 3) := by decide +kernel
theorem dX10_drawn_68 : decode cX10_drawn 68 = .ok (.lmul, 1) := by decide +kernel
theorem dX10_drawn_69 : decode cX10_drawn 69 = .ok (.ldc2_w 268, 3) := by decide +kernel
theorem dX10_drawn_72 : decode cX10_drawn 72 = .ok (.lrem, 1) := by decide +kernel
theorem dX10_drawn_73 : decode cX10_drawn 73 = .ok (.lstore 5, 2) := by decide +kernel
theorem dX10_drawn_75 : decode cX10_drawn 75 = .ok (.lload 5, 2) := by decide +kernel
theorem dX10_drawn_77 : decode cX10_drawn 77 = .ok (.aload_n 0, 1) := by decide +kernel
theorem dX10_drawn_78 : decode cX10_drawn 78 = .ok (.getfield 31, 3) := by decide +kernel
theorem dX10_drawn_81 : decode cX10_drawn 81 = .ok (.iconst 1, 1) := by decide +kernel
theorem dX10_drawn_82 : decode cX10_drawn 82 = .ok (.iaload, 1) := by decide +kernel
theorem dX10_drawn_83 : decode cX10_drawn 83 = .ok (.i2l, 1) := by decide +kernel
theorem dX10_drawn_84 : decode cX10_drawn 84 = .ok (.lrem, 1) := by decide +kernel
theorem dX10_drawn_85 : decode cX10_drawn 85 = .ok (.l2i, 1) := by decide +kernel
theorem dX10_drawn_86 : decode cX10_drawn 86 = .ok (.istore 8, 2) := by decide +kernel
theorem dX10_drawn_88 : decode cX10_drawn 88 = .ok (.aload_n 0, 1) := by decide +kernel
theorem dX10_drawn_89 : decode cX10_drawn 89 = .ok (.aload_n 0, 1) := by decide +kernel
theorem dX10_drawn_90 : decode cX10_drawn 90 = .ok (.getfield 37, 3) := by decide +kernel
theorem dX10_drawn_93 : decode cX10_drawn 93 = .ok (.iload 8, 2) := by decide +kernel
theorem dX10_drawn_95 : decode cX10_drawn 95 = .ok (.invokevirtual 208, 3) := by decide +kernel
theorem dX10_drawn_98 : decode cX10_drawn 98 = .ok (.ifCond .eq 14, 3) := by decide +kernel
theorem dX10_drawn_101 : decode cX10_drawn 101 = .ok (.aload_n 0, 1) := by decide +kernel
theorem dX10_drawn_102 : decode cX10_drawn 102 = .ok (.aload_n 0, 1) := by decide +kernel
theorem dX10_drawn_103 : decode cX10_drawn 103 = .ok (.getfield 37, 3) := by decide +kernel
theorem dX10_drawn_106 : decode cX10_drawn 106 = .ok (.iload 8, 2) := by decide +kernel
theorem dX10_drawn_108 : decode cX10_drawn 108 = .ok (.invokevirtual 212, 3) := by decide +kernel
theorem dX10_drawn_111 : decode cX10_drawn 111 = .ok (.pop, 1) := by decide +kernel
theorem dX10_drawn_112 : decode cX10_drawn 112 = .ok (.aload_n 0, 1) := by decide +kernel
theorem dX10_drawn_113 : decode cX10_drawn 113 = .ok (.aload_n 0, 1) := by decide +kernel
theorem dX10_drawn_114 : decode cX10_drawn 114 = .ok (.getfield 37, 3) := by decide +kernel
theorem dX10_drawn_117 : decode cX10_drawn 117 = .ok (.invokevirtual 201, 3) := by decide +kernel
theorem dX10_drawn_120 : decode cX10_drawn 120 = .ok (.iinc 7 1, 3) := by decide +kernel
theorem dX10_drawn_123 : decode cX10_drawn 123 = .ok (.goto (-66), 3) := by decide +kernel
theorem dX10_drawn_126 : decode cX10_drawn 126 = .ok (.iload_n 3, 1) := by decide +kernel
theorem dX10_drawn_127 : decode cX10_drawn 127 = .ok (.ifCond .ne 12, 3) := by decide +kernel
theorem dX10_drawn_130 : decode cX10_drawn 130 = .ok (.aload_n 0, 1) := by decide +kernel
theorem dX10_drawn_131 : decode cX10_drawn 131 = .ok (.getfield 37, 3) := by decide +kernel
theorem dX10_drawn_134 : decode cX10_drawn 134 = .ok (.iconst 4, 1) := by decide +kernel
theorem dX10_drawn_135 : decode cX10_drawn 135 = .ok (.iaload, 1) := by decide +kernel
theorem dX10_drawn_136 : decode cX10_drawn 136 = .ok (.goto 9, 3) := by decide +kernel
theorem dX10_drawn_139 : decode cX10_drawn 139 = .ok (.aload_n 0, 1) := by decide +kernel
theorem dX10_drawn_140 : decode cX10_drawn 140 = .ok (.getfield 37, 3) := by decide +kernel
theorem dX10_drawn_143 : decode cX10_drawn 143 = .ok (.iconst 2, 1) := by decide +kernel
theorem dX10_drawn_144 : decode cX10_drawn 144 = .ok (.iaload, 1) := by decide +kernel
theorem dX10_drawn_145 : decode cX10_drawn 145 = .ok (.ireturn, 1) := by decide +kernel
theorem dX10_image_0 : decode cX10_image 0 = .ok (.iload_n 1, 1) := by decide +kernel
theorem dX10_image_1 : decode cX10_image 1 = .ok (.iconst 0, 1) := by decide +kernel
theorem dX10_image_2 : decode cX10_image 2 = .ok (.iconst 1, 1) := by decide +kernel
theorem dX10_image_3 : decode cX10_image 3 = .ok (.invokestatic 70, 3) := by decide +kernel
theorem dX10_image_6 : decode cX10_image 6 = .ok (.ifCond .ne 6, 3) := by decide +kernel
theorem dX10_image_9 : decode cX10_image 9 = .ok (.ldc 78, 2) := by decide +kernel
theorem dX10_image_11 : decode cX10_image 11 = .ok (.ireturn, 1) := by decide +kernel
theorem dX10_image_12 : decode cX10_image 12 = .ok (.aload_n 0, 1) := by decide +kernel
theorem dX10_image_13 : decode cX10_image 13 = .ok (.getfield 151, 3) := by decide +kernel
theorem dX10_image_16 : decode cX10_image 16 = .ok (.ifCond .ne 6, 3) := by decide +kernel
theorem dX10_image_19 : decode cX10_image 19 = .ok (.ldc 193, 2) := by decide +kernel
theorem dX10_image_21 : decode cX10_image 21 = .ok (.ireturn, 1) := by decide +kernel
theorem dX10_image_22 : decode cX10_image 22 = .ok (.aload_n 0, 1) := by decide +kernel
theorem dX10_image_23 : decode cX10_image 23 = .ok (.getfield 52, 3) := by decide +kernel
theorem dX10_image_26 : decode cX10_image 26 = .ok (.iload_n 1, 1) := by decide +kernel
theorem dX10_image_27 : decode cX10_image 27 = .ok (.iconst 1, 1) := by decide +kernel
theorem dX10_image_28 : decode cX10_image 28 = .ok (.bastore, 1) := by decide +kernel
theorem dX10_image_29 : decode cX10_image 29 = .ok (.iconst 0, 1) := by decide +kernel
theorem dX10_image_30 : decode cX10_image 30 = .ok (.istore_n 2, 1) := by decide +kernel
theorem dX10_image_31 : decode cX10_image 31 = .ok (.iload_n 2, 1) := by decide +kernel
theorem dX10_image_32 : decode cX10_image 32 = .ok (.bipush 32, 2) := by decide +kernel
theorem dX10_image_34 : decode cX10_image 34 = .ok (.if_icmp .ge 26, 3) := by decide +kernel
theorem dX10_image_37 : decode cX10_image 37 = .ok (.aload_n 0, 1) := by decide +kernel
theorem dX10_image_38 : decode cX10_image 38 = .ok (.getfield 56, 3) := by decide +kernel
theorem dX10_image_41 : decode cX10_image 41 = .ok (.bipush 32, 2) := by decide +kernel
theorem dX10_image_43 : decode cX10_image 43 = .ok (.iload_n 1, 1) := by decide +kernel
theorem dX10_image_44 : decode cX10_image 44 = .ok (.imul, 1) := by decide +kernel
theorem dX10_image_45 : decode cX10_image 45 = .ok (.iload_n 2, 1) := by decide +kernel
theorem dX10_image_46 : decode cX10_image 46 = .ok (.iadd, 1) := by decide +kernel
theorem dX10_image_47 : decode cX10_image 47 = .ok (.aload_n 0, 1) := by decide +kernel
theorem dX10_image_48 : decode cX10_image 48 = .ok (.getfield 31, 3) := by decide +kernel
theorem dX10_image_51 : decode cX10_image 51 = .ok (.iload_n 2, 1) := by decide +kernel
theorem dX10_image_52 : decode cX10_image 52 = .ok (.iaload, 1) := by decide +kernel
theorem dX10_image_53 : decode cX10_image 53 = .ok (.iastore, 1) := by decide +kernel
theorem dX10_image_54 : decode cX10_image 54 = .ok (.iinc 2 1, 3) := by decide +kernel
theorem dX10_image_57 : decode cX10_image 57 = .ok (.goto (-26), 3) := by decide +kernel
theorem dX10_image_60 : decode cX10_image 60 = .ok (.iconst 0, 1) := by decide +kernel
theorem dX10_image_61 : decode cX10_image 61 = .ok (.istore_n 2, 1) := by decide +kernel
theorem dX10_image_62 : decode cX10_image 62 = .ok (.iload_n 2, 1) := by decide +kernel
theorem dX10_image_63 : decode cX10_image 63 = .ok (.bipush 21, 2) := by decide +kernel
theorem dX10_image_65 : decode cX10_image 65 = .ok (.if_icmp .ge 26, 3) := by decide +kernel
theorem dX10_image_68 : decode cX10_image 68 = .ok (.aload_n 0, 1) := by decide +kernel
theorem dX10_image_69 : decode cX10_image 69 = .ok (.getfield 59, 3) := by decide +kernel
theorem dX10_image_72 : decode cX10_image 72 = .ok (.bipush 21, 2) := by decide +kernel
theorem dX10_image_74 : decode cX10_image 74 = .ok (.iload_n 1, 1) := by decide +kernel
theorem dX10_image_75 : decode cX10_image 75 = .ok (.imul, 1) := by decide +kernel
theorem dX10_image_76 : decode cX10_image 76 = .ok (.iload_n 2, 1) := by decide +kernel
theorem dX10_image_77 : decode cX10_image 77 = .ok (.iadd, 1) := by decide +kernel
theorem dX10_image_78 : decode cX10_image 78 = .ok (.aload_n 0, 1) := by decide +kernel
theorem dX10_image_79 : decode cX10_image 79 = .ok (.getfield 34, 3) := by decide +kernel
theorem dX10_image_82 : decode cX10_image 82 = .ok (.iload_n 2, 1) := by decide +kernel
theorem dX10_image_83 : decode cX10_image 83 = .ok (.iaload, 1) := by decide +kernel
theorem dX10_image_84 : decode cX10_image 84 = .ok (.iastore, 1) := by decide +kernel
theorem dX10_image_85 : decode cX10_image 85 = .ok (.iinc 2 1, 3) := by decide +kernel
theorem dX10_image_88 : decode cX10_image 88 = .ok (.goto (-26), 3) := by decide +kernel
theorem dX10_image_91 : decode cX10_image 91 = .ok (.iconst 1, 1) := by decide +kernel
theorem dX10_image_92 : decode cX10_image 92 = .ok (.ireturn, 1) := by decide +kernel
theorem dX10_restore_0 : decode cX10_restore 0 = .ok (.iload_n 1, 1) := by decide +kernel
theorem dX10_restore_1 : decode cX10_restore 1 = .ok (.iconst 0, 1) := by decide +kernel
theorem dX10_restore_2 : decode cX10_restore 2 = .ok (.iconst 1, 1) := by decide +kernel
theorem dX10_restore_3 : decode cX10_restore 3 = .ok (.invokestatic 70, 3) := by decide +kernel
theorem dX10_restore_6 : decode cX10_restore 6 = .ok (.ifCond .ne 6, 3) := by decide +kernel
theorem dX10_restore_9 : decode cX10_restore 9 = .ok (.ldc 78, 2) := by decide +kernel
theorem dX10_restore_11 : decode cX10_restore 11 = .ok (.ireturn, 1) := by decide +kernel
theorem dX10_restore_12 : decode cX10_restore 12 = .ok (.aload_n 0, 1) := by decide +kernel
theorem dX10_restore_13 : decode cX10_restore 13 = .ok (.getfield 52, 3) := by decide +kernel
theorem dX10_restore_16 : decode cX10_restore 16 = .ok (.iload_n 1, 1) := by decide +kernel
theorem dX10_restore_17 : decode cX10_restore 17 = .ok (.baload, 1) := by decide +kernel
theorem dX10_restore_18 : decode cX10_restore 18 = .ok (.ifCond .ne 6, 3) := by decide +kernel
theorem dX10_restore_21 : decode cX10_restore 21 = .ok (.ldc 193, 2) := by decide +kernel
theorem dX10_restore_23 : decode cX10_restore 23 = .ok (.ireturn, 1) := by decide +kernel
theorem dX10_restore_24 : decode cX10_restore 24 = .ok (.aload_n 0, 1) := by decide +kernel
theorem dX10_restore_25 : decode cX10_restore 25 = .ok (.iconst 0, 1) := by decide +kernel
theorem dX10_restore_26 : decode cX10_restore 26 = .ok (.putfield 155, 3) := by decide +kernel
theorem dX10_restore_29 : decode cX10_restore 29 = .ok (.iconst 0, 1) := by decide +kernel
theorem dX10_restore_30 : decode cX10_restore 30 = .ok (.istore_n 2, 1) := by decide +kernel
theorem dX10_restore_31 : decode cX10_restore 31 = .ok (.iload_n 2, 1) := by decide +kernel
theorem dX10_restore_32 : decode cX10_restore 32 = .ok (.bipush 32, 2) := by decide +kernel
theorem dX10_restore_34 : decode cX10_restore 34 = .ok (.if_icmp .ge 26, 3) := by decide +kernel
theorem dX10_restore_37 : decode cX10_restore 37 = .ok (.aload_n 0, 1) := by decide +kernel
theorem dX10_restore_38 : decode cX10_restore 38 = .ok (.getfield 31, 3) := by decide +kernel
theorem dX10_restore_41 : decode cX10_restore 41 = .ok (.iload_n 2, 1) := by decide +kernel
theorem dX10_restore_42 : decode cX10_restore 42 = .ok (.aload_n 0, 1) := by decide +kernel
theorem dX10_restore_43 : decode cX10_restore 43 = .ok (.getfield 56, 3) := by decide +kernel
theorem dX10_restore_46 : decode cX10_restore 46 = .ok (.bipush 32, 2) := by decide +kernel
theorem dX10_restore_48 : decode cX10_restore 48 = .ok (.iload_n 1, 1) := by decide +kernel
theorem dX10_restore_49 : decode cX10_restore 49 = .ok (.imul, 1) := by decide +kernel
theorem dX10_restore_50 : decode cX10_restore 50 = .ok (.iload_n 2, 1) := by decide +kernel
theorem dX10_restore_51 : decode cX10_restore 51 = .ok (.iadd, 1) := by decide +kernel
theorem dX10_restore_52 : decode cX10_restore 52 = .ok (.iaload, 1) := by decide +kernel
theorem dX10_restore_53 : decode cX10_restore 53 = .ok (.iastore, 1) := by decide +kernel
theorem dX10_restore_54 : decode cX10_restore 54 = .ok (.iinc 2 1, 3) := by decide +kernel
theorem dX10_restore_57 : decode cX10_restore 57 = .ok (.goto (-26), 3) := by decide +kernel
theorem dX10_restore_60 : decode cX10_restore 60 = .ok (.iconst 0, 1) := by decide +kernel
theorem dX10_restore_61 : decode cX10_restore 61 = .ok (.istore_n 2, 1) := by decide +kernel
theorem dX10_restore_62 : decode cX10_restore 62 = .ok (.iload_n 2, 1) := by decide +kernel
theorem dX10_restore_63 : decode cX10_restore 63 = .ok (.bipush 21, 2) := by decide +kernel
theorem dX10_restore_65 : decode cX10_restore 65 = .ok (.if_icmp .ge 26, 3) := by decide +kernel
theorem dX10_restore_68 : decode cX10_restore 68 = .ok (.aload_n 0, 1) := by decide +kernel
theorem dX10_restore_69 : decode cX10_restore 69 = .ok (.getfield 34, 3) := by decide +kernel
theorem dX10_restore_72 : decode cX10_restore 72 = .ok (.iload_n 2, 1) := by decide +kernel
theorem dX10_restore_73 : decode cX10_restore 73 = .ok (.aload_n 0, 1) := by decide +kernel
theorem dX10_restore_74 : decode cX10_restore 74 = .ok (.getfield 59, 3) := by decide +kernel
theorem dX10_restore_77 : decode cX10_restore 77 = .ok (.bipush 21, 2) := by decide +kernel
theorem dX10_restore_79 : decode cX10_restore 79 = .ok (.iload_n 1, 1) := by decide +kernel
theorem dX10_restore_80 : decode cX10_restore 80 = .ok (.imul, 1) := by decide +kernel
theorem dX10_restore_81 : decode cX10_restore 81 = .ok (.iload_n 2, 1) := by decide +kernel
theorem dX10_restore_82 : decode cX10_restore 82 = .ok (.iadd, 1) := by decide +kernel
theorem dX10_restore_83 : decode cX10_restore 83 = .ok (.iaload, 1) := by decide +kernel
theorem dX10_restore_84 : decode cX10_restore 84 = .ok (.iastore, 1) := by decide +kernel
theorem dX10_restore_85 : decode cX10_restore 85 = .ok (.iinc 2 1, 3) := by decide +kernel
theorem dX10_restore_88 : decode cX10_restore 88 = .ok (.goto (-26), 3) := by decide +kernel
theorem dX10_restore_91 : decode cX10_restore 91 = .ok (.iconst 1, 1) := by decide +kernel
theorem dX10_restore_92 : decode cX10_restore 92 = .ok (.ireturn, 1) := by decide +kernel
theorem dX10_kind_0 : decode cX10_kind 0 = .ok (.aload_n 0, 1) := by decide +kernel
theorem dX10_kind_1 : decode cX10_kind 1 = .ok (.iload_n 1, 1) := by decide +kernel
theorem dX10_kind_2 : decode cX10_kind 2 = .ok (.invokevirtual 205, 3) := by decide +kernel
theorem dX10_kind_5 : decode cX10_kind 5 = .ok (.ifCond .eq 15, 3) := by decide +kernel
theorem dX10_kind_8 : decode cX10_kind 8 = .ok (.aload_n 0, 1) := by decide +kernel
theorem dX10_kind_9 : decode cX10_kind 9 = .ok (.getfield 31, 3) := by decide +kernel
theorem dX10_kind_12 : decode cX10_kind 12 = .ok (.bipush 8, 2) := by decide +kernel
theorem dX10_kind_14 : decode cX10_kind 14 = .ok (.iload_n 1, 1) := by decide +kernel
theorem dX10_kind_15 : decode cX10_kind 15 = .ok (.iadd, 1) := by decide +kernel
theorem dX10_kind_16 : decode cX10_kind 16 = .ok (.iaload, 1) := by decide +kernel
theorem dX10_kind_17 : decode cX10_kind 17 = .ok (.goto 5, 3) := by decide +kernel
theorem dX10_kind_20 : decode cX10_kind 20 = .ok (.ldc 78, 2) := by decide +kernel
theorem dX10_kind_22 : decode cX10_kind 22 = .ok (.ireturn, 1) := by decide +kernel
theorem dX10_as_0 : decode cX10_as 0 = .ok (.aload_n 0, 1) := by decide +kernel
theorem dX10_as_1 : decode cX10_as 1 = .ok (.iload_n 1, 1) := by decide +kernel
theorem dX10_as_2 : decode cX10_as 2 = .ok (.invokevirtual 205, 3) := by decide +kernel
theorem dX10_as_5 : decode cX10_as 5 = .ok (.ifCond .eq 12, 3) := by decide +kernel
theorem dX10_as_8 : decode cX10_as 8 = .ok (.iload_n 2, 1) := by decide +kernel
theorem dX10_as_9 : decode cX10_as 9 = .ok (.iconst 0, 1) := by decide +kernel
theorem dX10_as_10 : decode cX10_as 10 = .ok (.iconst 5, 1) := by decide +kernel
theorem dX10_as_11 : decode cX10_as 11 = .ok (.invokestatic 70, 3) := by decide +kernel
theorem dX10_as_14 : decode cX10_as 14 = .ok (.ifCond .ne 6, 3) := by decide +kernel
theorem dX10_as_17 : decode cX10_as 17 = .ok (.ldc 78, 2) := by decide +kernel
theorem dX10_as_19 : decode cX10_as 19 = .ok (.ireturn, 1) := by decide +kernel
theorem dX10_as_20 : decode cX10_as 20 = .ok (.aload_n 0, 1) := by decide +kernel
theorem dX10_as_21 : decode cX10_as 21 = .ok (.getfield 31, 3) := by decide +kernel
theorem dX10_as_24 : decode cX10_as 24 = .ok (.bipush 8, 2) := by decide +kernel
theorem dX10_as_26 : decode cX10_as 26 = .ok (.iload_n 1, 1) := by decide +kernel
theorem dX10_as_27 : decode cX10_as 27 = .ok (.iadd, 1) := by decide +kernel
theorem dX10_as_28 : decode cX10_as 28 = .ok (.iaload, 1) := by decide +kernel
theorem dX10_as_29 : decode cX10_as 29 = .ok (.istore_n 3, 1) := by decide +kernel
theorem dX10_as_30 : decode cX10_as 30 = .ok (.iload_n 2, 1) := by decide +kernel
theorem dX10_as_31 : decode cX10_as 31 = .ok (.ifCond .eq 33, 3) := by decide +kernel
theorem dX10_as_34 : decode cX10_as 34 = .ok (.iload_n 2, 1) := by decide +kernel
theorem dX10_as_35 : decode cX10_as 35 = .ok (.iload_n 3, 1) := by decide +kernel
theorem dX10_as_36 : decode cX10_as 36 = .ok (.if_icmp .eq 28, 3) := by decide +kernel
theorem dX10_as_39 : decode cX10_as 39 = .ok (.iload_n 2, 1) := by decide +kernel
theorem dX10_as_40 : decode cX10_as 40 = .ok (.iconst 1, 1) := by decide +kernel
theorem dX10_as_41 : decode cX10_as 41 = .ok (.if_icmp .ne 13, 3) := by decide +kernel
theorem dX10_as_44 : decode cX10_as 44 = .ok (.iload_n 3, 1) := by decide +kernel
theorem dX10_as_45 : decode cX10_as 45 = .ok (.iconst 2, 1) := by decide +kernel
theorem dX10_as_46 : decode cX10_as 46 = .ok (.if_icmp .eq 18, 3) := by decide +kernel
theorem dX10_as_49 : decode cX10_as 49 = .ok (.iload_n 3, 1) := by decide +kernel
theorem dX10_as_50 : decode cX10_as 50 = .ok (.iconst 3, 1) := by decide +kernel
theorem dX10_as_51 : decode cX10_as 51 = .ok (.if_icmp .eq 13, 3) := by decide +kernel
theorem dX10_as_54 : decode cX10_as 54 = .ok (.iload_n 2, 1) := by decide +kernel
theorem dX10_as_55 : decode cX10_as 55 = .ok (.iconst 4, 1) := by decide +kernel
theorem dX10_as_56 : decode cX10_as 56 = .ok (.if_icmp .ne 12, 3) := by decide +kernel
theorem dX10_as_59 : decode cX10_as 59 = .ok (.iload_n 3, 1) := by decide +kernel
theorem dX10_as_60 : decode cX10_as 60 = .ok (.iconst 5, 1) := by decide +kernel
theorem dX10_as_61 : decode cX10_as 61 = .ok (.if_icmp .ne 7, 3) := by decide +kernel
theorem dX10_as_64 : decode cX10_as 64 = .ok (.iconst 1, 1) := by decide +kernel
theorem dX10_as_65 : decode cX10_as 65 = .ok (.goto 4, 3) := by decide +kernel
theorem dX10_as_68 : decode cX10_as 68 = .ok (.iconst 0, 1) := by decide +kernel
theorem dX10_as_69 : decode cX10_as 69 = .ok (.istore 4, 2) := by decide +kernel
theorem dX10_as_71 : decode cX10_as 71 = .ok (.iload 4, 2) := by decide +kernel
theorem dX10_as_73 : decode cX10_as 73 = .ok (.ifCond .eq 11, 3) := by decide +kernel
theorem dX10_as_76 : decode cX10_as 76 = .ok (.aload_n 0, 1) := by decide +kernel
theorem dX10_as_77 : decode cX10_as 77 = .ok (.iload_n 1, 1) := by decide +kernel
theorem dX10_as_78 : decode cX10_as 78 = .ok (.invokevirtual 83, 3) := by decide +kernel
theorem dX10_as_81 : decode cX10_as 81 = .ok (.goto 8, 3) := by decide +kernel
theorem dX10_as_84 : decode cX10_as 84 = .ok (.aload_n 0, 1) := by decide +kernel
theorem dX10_as_85 : decode cX10_as 85 = .ok (.iconst 3, 1) := by decide +kernel
theorem dX10_as_86 : decode cX10_as 86 = .ok (.invokevirtual 79, 3) := by decide +kernel
theorem dX10_as_89 : decode cX10_as 89 = .ok (.ireturn, 1) := by decide +kernel
theorem dX10_leaves_0 : decode cX10_leaves 0 = .ok (.aload_n 0, 1) := by decide +kernel
theorem dX10_leaves_1 : decode cX10_leaves 1 = .ok (.getfield 270, 3) := by decide +kernel
theorem dX10_leaves_4 : decode cX10_leaves 4 = .ok (.bipush 16, 2) := by decide +kernel
theorem dX10_leaves_6 : decode cX10_leaves 6 = .ok (.if_icmp .ge 23, 3) := by decide +kernel
theorem dX10_leaves_9 : decode cX10_leaves 9 = .ok (.aload_n 0, 1) := by decide +kernel
theorem dX10_leaves_10 : decode cX10_leaves 10 = .ok (.getfield 62, 3) := by decide +kernel
theorem dX10_leaves_13 : decode cX10_leaves 13 = .ok (.aload_n 0, 1) := by decide +kernel
theorem dX10_leaves_14 : decode cX10_leaves 14 = .ok (.getfield 270, 3) := by decide +kernel
theorem dX10_leaves_17 : decode cX10_leaves 17 = .ok (.iload_n 1, 1) := by decide +kernel
theorem dX10_leaves_18 : decode cX10_leaves 18 = .ok (.iastore, 1) := by decide +kernel
theorem dX10_leaves_19 : decode cX10_leaves 19 = .ok (.aload_n 0, 1) := by decide +kernel
theorem dX10_leaves_20 : decode cX10_leaves 20 = .ok (.dup, 1) := by decide +kernel
theorem dX10_leaves_21 : decode cX10_leaves 21 = .ok (.getfield 270, 3) := by decide +kernel
theorem dX10_leaves_24 : decode cX10_leaves 24 = .ok (.iconst 1, 1) := by decide +kernel
theorem dX10_leaves_25 : decode cX10_leaves 25 = .ok (.iadd, 1) := by decide +kernel
theorem dX10_leaves_26 : decode cX10_leaves 26 = .ok (.putfield 270, 3) := by decide +kernel
theorem dX10_leaves_29 : decode cX10_leaves 29 = .ok (.return_, 1) := by decide +kernel
theorem dX10_b10_0 : decode cX10_b10 0 = .ok (.aload_n 0, 1) := by decide +kernel
theorem dX10_b10_1 : decode cX10_b10 1 = .ok (.bipush 10, 2) := by decide +kernel
theorem dX10_b10_3 : decode cX10_b10 3 = .ok (.invokevirtual 273, 3) := by decide +kernel
theorem dX10_b10_6 : decode cX10_b10 6 = .ok (.aload_n 0, 1) := by decide +kernel
theorem dX10_b10_7 : decode cX10_b10 7 = .ok (.getfield 31, 3) := by decide +kernel
theorem dX10_b10_10 : decode cX10_b10 10 = .ok (.bipush 20, 2) := by decide +kernel
theorem dX10_b10_12 : decode cX10_b10 12 = .ok (.iload_n 1, 1) := by decide +kernel
theorem dX10_b10_13 : decode cX10_b10 13 = .ok (.iadd, 1) := by decide +kernel
theorem dX10_b10_14 : decode cX10_b10 14 = .ok (.iaload, 1) := by decide +kernel
theorem dX10_b10_15 : decode cX10_b10 15 = .ok (.ireturn, 1) := by decide +kernel
theorem dX10_b20_0 : decode cX10_b20 0 = .ok (.aload_n 0, 1) := by decide +kernel
theorem dX10_b20_1 : decode cX10_b20 1 = .ok (.bipush 20, 2) := by decide +kernel
theorem dX10_b20_3 : decode cX10_b20 3 = .ok (.invokevirtual 273, 3) := by decide +kernel
theorem dX10_b20_6 : decode cX10_b20 6 = .ok (.iload_n 1, 1) := by decide +kernel
theorem dX10_b20_7 : decode cX10_b20 7 = .ok (.ireturn, 1) := by decide +kernel
theorem dX10_b21_0 : decode cX10_b21 0 = .ok (.aload_n 0, 1) := by decide +kernel
theorem dX10_b21_1 : decode cX10_b21 1 = .ok (.bipush 21, 2) := by decide +kernel
theorem dX10_b21_3 : decode cX10_b21 3 = .ok (.invokevirtual 273, 3) := by decide +kernel
theorem dX10_b21_6 : decode cX10_b21 6 = .ok (.aload_n 0, 1) := by decide +kernel
theorem dX10_b21_7 : decode cX10_b21 7 = .ok (.iload_n 1, 1) := by decide +kernel
theorem dX10_b21_8 : decode cX10_b21 8 = .ok (.invokevirtual 276, 3) := by decide +kernel
theorem dX10_b21_11 : decode cX10_b21 11 = .ok (.aload_n 0, 1) := by decide +kernel
theorem dX10_b21_12 : decode cX10_b21 12 = .ok (.getfield 34, 3) := by decide +kernel
theorem dX10_b21_15 : decode cX10_b21 15 = .ok (.iconst 3, 1) := by decide +kernel
theorem dX10_b21_16 : decode cX10_b21 16 = .ok (.iaload, 1) := by decide +kernel
theorem dX10_b21_17 : decode cX10_b21 17 = .ok (.iadd, 1) := by decide +kernel
theorem dX10_b21_18 : decode cX10_b21 18 = .ok (.ireturn, 1) := by decide +kernel
theorem dX10_markOfNotice_0 : decode cX10_markOfNotice 0 = .ok (.aload_n 0, 1) := by decide +kernel
theorem dX10_markOfNotice_1 : decode cX10_markOfNotice 1 = .ok (.getfield 31, 3) := by decide +kernel
theorem dX10_markOfNotice_4 : decode cX10_markOfNotice 4 = .ok (.bipush 8, 2) := by decide +kernel
theorem dX10_markOfNotice_6 : decode cX10_markOfNotice 6 = .ok (.iload_n 1, 1) := by decide +kernel
theorem dX10_markOfNotice_7 : decode cX10_markOfNotice 7 = .ok (.iadd, 1) := by decide +kernel
theorem dX10_markOfNotice_8 : decode cX10_markOfNotice 8 = .ok (.iaload, 1) := by decide +kernel
theorem dX10_markOfNotice_9 : decode cX10_markOfNotice 9 = .ok (.lookupswitch 57 #[(2, 27), (3, 41)], 27) := by decide +kernel
theorem dX10_markOfNotice_36 : decode cX10_markOfNotice 36 = .ok (.aload_n 0, 1) := by decide +kernel
theorem dX10_markOfNotice_37 : decode cX10_markOfNotice 37 = .ok (.bipush 24, 2) := by decide +kernel
theorem dX10_markOfNotice_39 : decode cX10_markOfNotice 39 = .ok (.invokevirtual 273, 3) := by decide +kernel
theorem dX10_markOfNotice_42 : decode cX10_markOfNotice 42 = .ok (.iconst 2, 1) := by decide +kernel
theorem dX10_markOfNotice_43 : decode cX10_markOfNotice 43 = .ok (.aload_n 0, 1) := by decide +kernel
theorem dX10_markOfNotice_44 : decode cX10_markOfNotice 44 = .ok (.iload_n 1, 1) := by decide +kernel
theorem dX10_markOfNotice_45 : decode cX10_markOfNotice 45 = .ok (.invokevirtual 279, 3) := by decide +kernel
theorem dX10_markOfNotice_48 : decode cX10_markOfNotice 48 = .ok (.imul, 1) := by decide +kernel
theorem dX10_markOfNotice_49 : decode cX10_markOfNotice 49 = .ok (.ireturn, 1) := by decide +kernel
theorem dX10_markOfNotice_50 : decode cX10_markOfNotice 50 = .ok (.aload_n 0, 1) := by decide +kernel
theorem dX10_markOfNotice_51 : decode cX10_markOfNotice 51 = .ok (.bipush 22, 2) := by decide +kernel
theorem dX10_markOfNotice_53 : decode cX10_markOfNotice 53 = .ok (.invokevirtual 273, 3) := by decide +kernel
theorem dX10_markOfNotice_56 : decode cX10_markOfNotice 56 = .ok (.aload_n 0, 1) := by decide +kernel
theorem dX10_markOfNotice_57 : decode cX10_markOfNotice 57 = .ok (.iload_n 1, 1) := by decide +kernel
theorem dX10_markOfNotice_58 : decode cX10_markOfNotice 58 = .ok (.invokevirtual 279, 3) := by decide +kernel
theorem dX10_markOfNotice_61 : decode cX10_markOfNotice 61 = .ok (.sipush 1000, 3) := by decide +kernel
theorem dX10_markOfNotice_64 : decode cX10_markOfNotice 64 = .ok (.isub, 1) := by decide +kernel
theorem dX10_markOfNotice_65 : decode cX10_markOfNotice 65 = .ok (.ireturn, 1) := by decide +kernel
theorem dX10_markOfNotice_66 : decode cX10_markOfNotice 66 = .ok (.aload_n 0, 1) := by decide +kernel
theorem dX10_markOfNotice_67 : decode cX10_markOfNotice 67 = .ok (.iload_n 1, 1) := by decide +kernel
theorem dX10_markOfNotice_68 : decode cX10_markOfNotice 68 = .ok (.invokevirtual 279, 3) := by decide +kernel
theorem dX10_markOfNotice_71 : decode cX10_markOfNotice 71 = .ok (.ireturn, 1) := by decide +kernel
theorem dX10_b11_0 : decode cX10_b11 0 = .ok (.aload_n 0, 1) := by decide +kernel
theorem dX10_b11_1 : decode cX10_b11 1 = .ok (.bipush 11, 2) := by decide +kernel
theorem dX10_b11_3 : decode cX10_b11 3 = .ok (.invokevirtual 273, 3) := by decide +kernel
theorem dX10_b11_6 : decode cX10_b11 6 = .ok (.aload_n 0, 1) := by decide +kernel
theorem dX10_b11_7 : decode cX10_b11 7 = .ok (.iload_n 1, 1) := by decide +kernel
theorem dX10_b11_8 : decode cX10_b11 8 = .ok (.invokevirtual 282, 3) := by decide +kernel
theorem dX10_b11_11 : decode cX10_b11 11 = .ok (.istore_n 2, 1) := by decide +kernel
theorem dX10_b11_12 : decode cX10_b11 12 = .ok (.iload_n 2, 1) := by decide +kernel
theorem dX10_b11_13 : decode cX10_b11 13 = .ok (.aload_n 0, 1) := by decide +kernel
theorem dX10_b11_14 : decode cX10_b11 14 = .ok (.iload_n 1, 1) := by decide +kernel
theorem dX10_b11_15 : decode cX10_b11 15 = .ok (.invokevirtual 285, 3) := by decide +kernel
theorem dX10_b11_18 : decode cX10_b11 18 = .ok (.iadd, 1) := by decide +kernel
theorem dX10_b11_19 : decode cX10_b11 19 = .ok (.ireturn, 1) := by decide +kernel
theorem dX10_b13_0 : decode cX10_b13 0 = .ok (.aload_n 0, 1) := by decide +kernel
theorem dX10_b13_1 : decode cX10_b13 1 = .ok (.bipush 13, 2) := by decide +kernel
theorem dX10_b13_3 : decode cX10_b13 3 = .ok (.invokevirtual 273, 3) := by decide +kernel
theorem dX10_b13_6 : decode cX10_b13 6 = .ok (.aload_n 0, 1) := by decide +kernel
theorem dX10_b13_7 : decode cX10_b13 7 = .ok (.iload_n 1, 1) := by decide +kernel
theorem dX10_b13_8 : decode cX10_b13 8 = .ok (.invokevirtual 282, 3) := by decide +kernel
theorem dX10_b13_11 : decode cX10_b13 11 = .ok (.bipush 100, 2) := by decide +kernel
theorem dX10_b13_13 : decode cX10_b13 13 = .ok (.isub, 1) := by decide +kernel
theorem dX10_b13_14 : decode cX10_b13 14 = .ok (.ireturn, 1) := by decide +kernel
theorem dX10_sizeOf_0 : decode cX10_sizeOf 0 = .ok (.aload_n 0, 1) := by decide +kernel
theorem dX10_sizeOf_1 : decode cX10_sizeOf 1 = .ok (.getfield 31, 3) := by decide +kernel
theorem dX10_sizeOf_4 : decode cX10_sizeOf 4 = .ok (.bipush 8, 2) := by decide +kernel
theorem dX10_sizeOf_6 : decode cX10_sizeOf 6 = .ok (.iload_n 1, 1) := by decide +kernel
theorem dX10_sizeOf_7 : decode cX10_sizeOf 7 = .ok (.iadd, 1) := by decide +kernel
theorem dX10_sizeOf_8 : decode cX10_sizeOf 8 = .ok (.iaload, 1) := by decide +kernel
theorem dX10_sizeOf_9 : decode cX10_sizeOf 9 = .ok (.tableswitch 64 2 5 #[31, 64, 44, 50], 31) := by decide +kernel
theorem dX10_sizeOf_40 : decode cX10_sizeOf 40 = .ok (.aload_n 0, 1) := by decide +kernel
theorem dX10_sizeOf_41 : decode cX10_sizeOf 41 = .ok (.bipush 12, 2) := by decide +kernel
theorem dX10_sizeOf_43 : decode cX10_sizeOf 43 = .ok (.invokevirtual 273, 3) := by decide +kernel
theorem dX10_sizeOf_46 : decode cX10_sizeOf 46 = .ok (.aload_n 0, 1) := by decide +kernel
theorem dX10_sizeOf_47 : decode cX10_sizeOf 47 = .ok (.iload_n 1, 1) := by decide +kernel
theorem dX10_sizeOf_48 : decode cX10_sizeOf 48 = .ok (.invokevirtual 288, 3) := by decide +kernel
theorem dX10_sizeOf_51 : decode cX10_sizeOf 51 = .ok (.ineg, 1) := by decide +kernel
theorem dX10_sizeOf_52 : decode cX10_sizeOf 52 = .ok (.ireturn, 1) := by decide +kernel
theorem dX10_sizeOf_53 : decode cX10_sizeOf 53 = .ok (.aload_n 0, 1) := by decide +kernel
theorem dX10_sizeOf_54 : decode cX10_sizeOf 54 = .ok (.iload_n 1, 1) := by decide +kernel
theorem dX10_sizeOf_55 : decode cX10_sizeOf 55 = .ok (.invokevirtual 291, 3) := by decide +kernel
theorem dX10_sizeOf_58 : decode cX10_sizeOf 58 = .ok (.ireturn, 1) := by decide +kernel
theorem dX10_sizeOf_59 : decode cX10_sizeOf 59 = .ok (.aload_n 0, 1) := by decide +kernel
theorem dX10_sizeOf_60 : decode cX10_sizeOf 60 = .ok (.bipush 14, 2) := by decide +kernel
theorem dX10_sizeOf_62 : decode cX10_sizeOf 62 = .ok (.invokevirtual 273, 3) := by decide +kernel
theorem dX10_sizeOf_65 : decode cX10_sizeOf 65 = .ok (.iconst 2, 1) := by decide +kernel
theorem dX10_sizeOf_66 : decode cX10_sizeOf 66 = .ok (.aload_n 0, 1) := by decide +kernel
theorem dX10_sizeOf_67 : decode cX10_sizeOf 67 = .ok (.iload_n 1, 1) := by decide +kernel
theorem dX10_sizeOf_68 : decode cX10_sizeOf 68 = .ok (.invokevirtual 291, 3) := by decide +kernel
theorem dX10_sizeOf_71 : decode cX10_sizeOf 71 = .ok (.imul, 1) := by decide +kernel
theorem dX10_sizeOf_72 : decode cX10_sizeOf 72 = .ok (.ireturn, 1) := by decide +kernel
theorem dX10_sizeOf_73 : decode cX10_sizeOf 73 = .ok (.aload_n 0, 1) := by decide +kernel
theorem dX10_sizeOf_74 : decode cX10_sizeOf 74 = .ok (.iload_n 1, 1) := by decide +kernel
theorem dX10_sizeOf_75 : decode cX10_sizeOf 75 = .ok (.invokevirtual 288, 3) := by decide +kernel
theorem dX10_sizeOf_78 : decode cX10_sizeOf 78 = .ok (.ireturn, 1) := by decide +kernel
theorem dX10_markOf_0 : decode cX10_markOf 0 = .ok (.aload_n 0, 1) := by decide +kernel
theorem dX10_markOf_1 : decode cX10_markOf 1 = .ok (.getfield 31, 3) := by decide +kernel
theorem dX10_markOf_4 : decode cX10_markOf 4 = .ok (.bipush 8, 2) := by decide +kernel
theorem dX10_markOf_6 : decode cX10_markOf 6 = .ok (.iload_n 1, 1) := by decide +kernel
theorem dX10_markOf_7 : decode cX10_markOf 7 = .ok (.iadd, 1) := by decide +kernel
theorem dX10_markOf_8 : decode cX10_markOf 8 = .ok (.iaload, 1) := by decide +kernel
theorem dX10_markOf_9 : decode cX10_markOf 9 = .ok (.iconst 4, 1) := by decide +kernel
theorem dX10_markOf_10 : decode cX10_markOf 10 = .ok (.if_icmp .ge 9, 3) := by decide +kernel
theorem dX10_markOf_13 : decode cX10_markOf 13 = .ok (.aload_n 0, 1) := by decide +kernel
theorem dX10_markOf_14 : decode cX10_markOf 14 = .ok (.iload_n 1, 1) := by decide +kernel
theorem dX10_markOf_15 : decode cX10_markOf 15 = .ok (.invokevirtual 285, 3) := by decide +kernel
theorem dX10_markOf_18 : decode cX10_markOf 18 = .ok (.ireturn, 1) := by decide +kernel
theorem dX10_markOf_19 : decode cX10_markOf 19 = .ok (.aload_n 0, 1) := by decide +kernel
theorem dX10_markOf_20 : decode cX10_markOf 20 = .ok (.bipush 23, 2) := by decide +kernel
theorem dX10_markOf_22 : decode cX10_markOf 22 = .ok (.invokevirtual 273, 3) := by decide +kernel
theorem dX10_markOf_25 : decode cX10_markOf 25 = .ok (.aload_n 0, 1) := by decide +kernel
theorem dX10_markOf_26 : decode cX10_markOf 26 = .ok (.iload_n 1, 1) := by decide +kernel
theorem dX10_markOf_27 : decode cX10_markOf 27 = .ok (.invokevirtual 276, 3) := by decide +kernel
theorem dX10_markOf_30 : decode cX10_markOf 30 = .ok (.istore_n 2, 1) := by decide +kernel
theorem dX10_markOf_31 : decode cX10_markOf 31 = .ok (.iload_n 2, 1) := by decide +kernel
theorem dX10_markOf_32 : decode cX10_markOf 32 = .ok (.aload_n 0, 1) := by decide +kernel
theorem dX10_markOf_33 : decode cX10_markOf 33 = .ok (.iload_n 1, 1) := by decide +kernel
theorem dX10_markOf_34 : decode cX10_markOf 34 = .ok (.invokevirtual 294, 3) := by decide +kernel
theorem dX10_markOf_37 : decode cX10_markOf 37 = .ok (.isub, 1) := by decide +kernel
theorem dX10_markOf_38 : decode cX10_markOf 38 = .ok (.ireturn, 1) := by decide +kernel
theorem dX10_ask_0 : decode cX10_ask 0 = .ok (.aload_n 0, 1) := by decide +kernel
theorem dX10_ask_1 : decode cX10_ask 1 = .ok (.iload_n 1, 1) := by decide +kernel
theorem dX10_ask_2 : decode cX10_ask 2 = .ok (.invokevirtual 205, 3) := by decide +kernel
theorem dX10_ask_5 : decode cX10_ask 5 = .ok (.ifCond .eq 12, 3) := by decide +kernel
theorem dX10_ask_8 : decode cX10_ask 8 = .ok (.iload_n 2, 1) := by decide +kernel
theorem dX10_ask_9 : decode cX10_ask 9 = .ok (.iconst 0, 1) := by decide +kernel
theorem dX10_ask_10 : decode cX10_ask 10 = .ok (.iconst 1, 1) := by decide +kernel
theorem dX10_ask_11 : decode cX10_ask 11 = .ok (.invokestatic 70, 3) := by decide +kernel
theorem dX10_ask_14 : decode cX10_ask 14 = .ok (.ifCond .ne 6, 3) := by decide +kernel
theorem dX10_ask_17 : decode cX10_ask 17 = .ok (.ldc 78, 2) := by decide +kernel
theorem dX10_ask_19 : decode cX10_ask 19 = .ok (.ireturn, 1) := by decide +kernel
theorem dX10_ask_20 : decode cX10_ask 20 = .ok (.aload_n 0, 1) := by decide +kernel
theorem dX10_ask_21 : decode cX10_ask 21 = .ok (.iconst 0, 1) := by decide +kernel
theorem dX10_ask_22 : decode cX10_ask 22 = .ok (.putfield 270, 3) := by decide +kernel
theorem dX10_ask_25 : decode cX10_ask 25 = .ok (.iload_n 2, 1) := by decide +kernel
theorem dX10_ask_26 : decode cX10_ask 26 = .ok (.ifCond .ne 11, 3) := by decide +kernel
theorem dX10_ask_29 : decode cX10_ask 29 = .ok (.aload_n 0, 1) := by decide +kernel
theorem dX10_ask_30 : decode cX10_ask 30 = .ok (.iload_n 1, 1) := by decide +kernel
theorem dX10_ask_31 : decode cX10_ask 31 = .ok (.invokevirtual 294, 3) := by decide +kernel
theorem dX10_ask_34 : decode cX10_ask 34 = .ok (.goto 8, 3) := by decide +kernel
theorem dX10_ask_37 : decode cX10_ask 37 = .ok (.aload_n 0, 1) := by decide +kernel
theorem dX10_ask_38 : decode cX10_ask 38 = .ok (.iload_n 1, 1) := by decide +kernel
theorem dX10_ask_39 : decode cX10_ask 39 = .ok (.invokevirtual 297, 3) := by decide +kernel
theorem dX10_ask_42 : decode cX10_ask 42 = .ok (.ireturn, 1) := by decide +kernel
theorem dX10_trace_0 : decode cX10_trace 0 = .ok (.iload_n 1, 1) := by decide +kernel
theorem dX10_trace_1 : decode cX10_trace 1 = .ok (.iconst 0, 1) := by decide +kernel
theorem dX10_trace_2 : decode cX10_trace 2 = .ok (.aload_n 0, 1) := by decide +kernel
theorem dX10_trace_3 : decode cX10_trace 3 = .ok (.getfield 270, 3) := by decide +kernel
theorem dX10_trace_6 : decode cX10_trace 6 = .ok (.iconst 1, 1) := by decide +kernel
theorem dX10_trace_7 : decode cX10_trace 7 = .ok (.isub, 1) := by decide +kernel
theorem dX10_trace_8 : decode cX10_trace 8 = .ok (.invokestatic 70, 3) := by decide +kernel
theorem dX10_trace_11 : decode cX10_trace 11 = .ok (.ifCond .eq 12, 3) := by decide +kernel
theorem dX10_trace_14 : decode cX10_trace 14 = .ok (.aload_n 0, 1) := by decide +kernel
theorem dX10_trace_15 : decode cX10_trace 15 = .ok (.getfield 62, 3) := by decide +kernel
theorem dX10_trace_18 : decode cX10_trace 18 = .ok (.iload_n 1, 1) := by decide +kernel
theorem dX10_trace_19 : decode cX10_trace 19 = .ok (.iaload, 1) := by decide +kernel
theorem dX10_trace_20 : decode cX10_trace 20 = .ok (.goto 5, 3) := by decide +kernel
theorem dX10_trace_23 : decode cX10_trace 23 = .ok (.ldc 133, 2) := by decide +kernel
theorem dX10_trace_25 : decode cX10_trace 25 = .ok (.ireturn, 1) := by decide +kernel
theorem dX10_count_0 : decode cX10_count 0 = .ok (.iload_n 1, 1) := by decide +kernel
theorem dX10_count_1 : decode cX10_count 1 = .ok (.tableswitch 127 0 7 #[47, 82, 89, 96, 103, 110, 117, 122], 47) := by decide +kernel
theorem dX10_count_48 : decode cX10_count 48 = .ok (.iconst 0, 1) := by decide +kernel
theorem dX10_count_49 : decode cX10_count 49 = .ok (.istore_n 2, 1) := by decide +kernel
theorem dX10_count_50 : decode cX10_count 50 = .ok (.iconst 0, 1) := by decide +kernel
theorem dX10_count_51 : decode cX10_count 51 = .ok (.istore_n 3, 1) := by decide +kernel
theorem dX10_count_52 : decode cX10_count 52 = .ok (.iload_n 3, 1) := by decide +kernel
theorem dX10_count_53 : decode cX10_count 53 = .ok (.bipush 8, 2) := by decide +kernel
theorem dX10_count_55 : decode cX10_count 55 = .ok (.if_icmp .ge 26, 3) := by decide +kernel
theorem dX10_count_58 : decode cX10_count 58 = .ok (.iload_n 2, 1) := by decide +kernel
theorem dX10_count_59 : decode cX10_count 59 = .ok (.aload_n 0, 1) := by decide +kernel
theorem dX10_count_60 : decode cX10_count 60 = .ok (.getfield 7, 3) := by decide +kernel
theorem dX10_count_63 : decode cX10_count 63 = .ok (.iload_n 3, 1) := by decide +kernel
theorem dX10_count_64 : decode cX10_count 64 = .ok (.iaload, 1) := by decide +kernel
theorem dX10_count_65 : decode cX10_count 65 = .ok (.ifCond .lt 7, 3) := by decide +kernel
theorem dX10_count_68 : decode cX10_count 68 = .ok (.iconst 1, 1) := by decide +kernel
theorem dX10_count_69 : decode cX10_count 69 = .ok (.goto 4, 3) := by decide +kernel
theorem dX10_count_72 : decode cX10_count 72 = .ok (.iconst 0, 1) := by decide +kernel
theorem dX10_count_73 : decode cX10_count 73 = .ok (.iadd, 1) := by decide +kernel
theorem dX10_count_74 : decode cX10_count 74 = .ok (.istore_n 2, 1) := by decide +kernel
theorem dX10_count_75 : decode cX10_count 75 = .ok (.iinc 3 1, 3) := by decide +kernel
theorem dX10_count_78 : decode cX10_count 78 = .ok (.goto (-26), 3) := by decide +kernel
theorem dX10_count_81 : decode cX10_count 81 = .ok (.iload_n 2, 1) := by decide +kernel
theorem dX10_count_82 : decode cX10_count 82 = .ok (.ireturn, 1) := by decide +kernel
theorem dX10_count_83 : decode cX10_count 83 = .ok (.aload_n 0, 1) := by decide +kernel
theorem dX10_count_84 : decode cX10_count 84 = .ok (.getfield 31, 3) := by decide +kernel
theorem dX10_count_87 : decode cX10_count 87 = .ok (.iconst 0, 1) := by decide +kernel
theorem dX10_count_88 : decode cX10_count 88 = .ok (.iaload, 1) := by decide +kernel
theorem dX10_count_89 : decode cX10_count 89 = .ok (.ireturn, 1) := by decide +kernel
theorem dX10_count_90 : decode cX10_count 90 = .ok (.aload_n 0, 1) := by decide +kernel
theorem dX10_count_91 : decode cX10_count 91 = .ok (.getfield 31, 3) := by decide +kernel
theorem dX10_count_94 : decode cX10_count 94 = .ok (.iconst 1, 1) := by decide +kernel
theorem dX10_count_95 : decode cX10_count 95 = .ok (.iaload, 1) := by decide +kernel
theorem dX10_count_96 : decode cX10_count 96 = .ok (.ireturn, 1) := by decide +kernel
theorem dX10_count_97 : decode cX10_count 97 = .ok (.aload_n 0, 1) := by decide +kernel
theorem dX10_count_98 : decode cX10_count 98 = .ok (.getfield 34, 3) := by decide +kernel
theorem dX10_count_101 : decode cX10_count 101 = .ok (.iconst 0, 1) := by decide +kernel
theorem dX10_count_102 : decode cX10_count 102 = .ok (.iaload, 1) := by decide +kernel
theorem dX10_count_103 : decode cX10_count 103 = .ok (.ireturn, 1) := by decide +kernel
theorem dX10_count_104 : decode cX10_count 104 = .ok (.aload_n 0, 1) := by decide +kernel
theorem dX10_count_105 : decode cX10_count 105 = .ok (.getfield 34, 3) := by decide +kernel
theorem dX10_count_108 : decode cX10_count 108 = .ok (.iconst 1, 1) := by decide +kernel
theorem dX10_count_109 : decode cX10_count 109 = .ok (.iaload, 1) := by decide +kernel
theorem dX10_count_110 : decode cX10_count 110 = .ok (.ireturn, 1) := by decide +kernel
theorem dX10_count_111 : decode cX10_count 111 = .ok (.aload_n 0, 1) := by decide +kernel
theorem dX10_count_112 : decode cX10_count 112 = .ok (.getfield 34, 3) := by decide +kernel
theorem dX10_count_115 : decode cX10_count 115 = .ok (.iconst 2, 1) := by decide +kernel
theorem dX10_count_116 : decode cX10_count 116 = .ok (.iaload, 1) := by decide +kernel
theorem dX10_count_117 : decode cX10_count 117 = .ok (.ireturn, 1) := by decide +kernel
theorem dX10_count_118 : decode cX10_count 118 = .ok (.aload_n 0, 1) := by decide +kernel
theorem dX10_count_119 : decode cX10_count 119 = .ok (.getfield 155, 3) := by decide +kernel
theorem dX10_count_122 : decode cX10_count 122 = .ok (.ireturn, 1) := by decide +kernel
theorem dX10_count_123 : decode cX10_count 123 = .ok (.aload_n 0, 1) := by decide +kernel
theorem dX10_count_124 : decode cX10_count 124 = .ok (.getfield 89, 3) := by decide +kernel
theorem dX10_count_127 : decode cX10_count 127 = .ok (.ireturn, 1) := by decide +kernel
theorem dX10_count_128 : decode cX10_count 128 = .ok (.ldc 78, 2) := by decide +kernel
theorem dX10_count_130 : decode cX10_count 130 = .ok (.ireturn, 1) := by decide +kernel
theorem dJ6_bitCount_0f7a4_0 : decode cJ6_bitCount_0f7a4 0 = .ok (.iload_n 0, 1) := by decide +kernel
theorem dJ6_bitCount_0f7a4_1 : decode cJ6_bitCount_0f7a4 1 = .ok (.iload_n 0, 1) := by decide +kernel
theorem dJ6_bitCount_0f7a4_2 : decode cJ6_bitCount_0f7a4 2 = .ok (.iconst 1, 1) := by decide +kernel
theorem dJ6_bitCount_0f7a4_3 : decode cJ6_bitCount_0f7a4 3 = .ok (.iushr, 1) := by decide +kernel
theorem dJ6_bitCount_0f7a4_4 : decode cJ6_bitCount_0f7a4 4 = .ok (.ldc_w 265, 3) := by decide +kernel
theorem dJ6_bitCount_0f7a4_7 : decode cJ6_bitCount_0f7a4 7 = .ok (.iand, 1) := by decide +kernel
theorem dJ6_bitCount_0f7a4_8 : decode cJ6_bitCount_0f7a4 8 = .ok (.isub, 1) := by decide +kernel
theorem dJ6_bitCount_0f7a4_9 : decode cJ6_bitCount_0f7a4 9 = .ok (.istore_n 0, 1) := by decide +kernel
theorem dJ6_bitCount_0f7a4_10 : decode cJ6_bitCount_0f7a4 10 = .ok (.iload_n 0, 1) := by decide +kernel
theorem dJ6_bitCount_0f7a4_11 : decode cJ6_bitCount_0f7a4 11 = .ok (.ldc_w 266, 3) := by decide +kernel
theorem dJ6_bitCount_0f7a4_14 : decode cJ6_bitCount_0f7a4 14 = .ok (.iand, 1) := by decide +kernel
theorem dJ6_bitCount_0f7a4_15 : decode cJ6_bitCount_0f7a4 15 = .ok (.iload_n 0, 1) := by decide +kernel
theorem dJ6_bitCount_0f7a4_16 : decode cJ6_bitCount_0f7a4 16 = .ok (.iconst 2, 1) := by decide +kernel
theorem dJ6_bitCount_0f7a4_17 : decode cJ6_bitCount_0f7a4 17 = .ok (.iushr, 1) := by decide +kernel
theorem dJ6_bitCount_0f7a4_18 : decode cJ6_bitCount_0f7a4 18 = .ok (.ldc_w 266, 3) := by decide +kernel
theorem dJ6_bitCount_0f7a4_21 : decode cJ6_bitCount_0f7a4 21 = .ok (.iand, 1) := by decide +kernel
theorem dJ6_bitCount_0f7a4_22 : decode cJ6_bitCount_0f7a4 22 = .ok (.iadd, 1) := by decide +kernel
theorem dJ6_bitCount_0f7a4_23 : decode cJ6_bitCount_0f7a4 23 = .ok (.istore_n 0, 1) := by decide +kernel
theorem dJ6_bitCount_0f7a4_24 : decode cJ6_bitCount_0f7a4 24 = .ok (.iload_n 0, 1) := by decide +kernel
theorem dJ6_bitCount_0f7a4_25 : decode cJ6_bitCount_0f7a4 25 = .ok (.iload_n 0, 1) := by decide +kernel
theorem dJ6_bitCount_0f7a4_26 : decode cJ6_bitCount_0f7a4 26 = .ok (.iconst 4, 1) := by decide +kernel
theorem dJ6_bitCount_0f7a4_27 : decode cJ6_bitCount_0f7a4 27 = .ok (.iushr, 1) := by decide +kernel
theorem dJ6_bitCount_0f7a4_28 : decode cJ6_bitCount_0f7a4 28 = .ok (.iadd, 1) := by decide +kernel
theorem dJ6_bitCount_0f7a4_29 : decode cJ6_bitCount_0f7a4 29 = .ok (.ldc_w 267, 3) := by decide +kernel
theorem dJ6_bitCount_0f7a4_32 : decode cJ6_bitCount_0f7a4 32 = .ok (.iand, 1) := by decide +kernel
theorem dJ6_bitCount_0f7a4_33 : decode cJ6_bitCount_0f7a4 33 = .ok (.istore_n 0, 1) := by decide +kernel
theorem dJ6_bitCount_0f7a4_34 : decode cJ6_bitCount_0f7a4 34 = .ok (.iload_n 0, 1) := by decide +kernel
theorem dJ6_bitCount_0f7a4_35 : decode cJ6_bitCount_0f7a4 35 = .ok (.iload_n 0, 1) := by decide +kernel
theorem dJ6_bitCount_0f7a4_36 : decode cJ6_bitCount_0f7a4 36 = .ok (.bipush 8, 2) := by decide +kernel
theorem dJ6_bitCount_0f7a4_38 : decode cJ6_bitCount_0f7a4 38 = .ok (.iushr, 1) := by decide +kernel
theorem dJ6_bitCount_0f7a4_39 : decode cJ6_bitCount_0f7a4 39 = .ok (.iadd, 1) := by decide +kernel
theorem dJ6_bitCount_0f7a4_40 : decode cJ6_bitCount_0f7a4 40 = .ok (.istore_n 0, 1) := by decide +kernel
theorem dJ6_bitCount_0f7a4_41 : decode cJ6_bitCount_0f7a4 41 = .ok (.iload_n 0, 1) := by decide +kernel
theorem dJ6_bitCount_0f7a4_42 : decode cJ6_bitCount_0f7a4 42 = .ok (.iload_n 0, 1) := by decide +kernel
theorem dJ6_bitCount_0f7a4_43 : decode cJ6_bitCount_0f7a4 43 = .ok (.bipush 16, 2) := by decide +kernel
theorem dJ6_bitCount_0f7a4_45 : decode cJ6_bitCount_0f7a4 45 = .ok (.iushr, 1) := by decide +kernel
theorem dJ6_bitCount_0f7a4_46 : decode cJ6_bitCount_0f7a4 46 = .ok (.iadd, 1) := by decide +kernel
theorem dJ6_bitCount_0f7a4_47 : decode cJ6_bitCount_0f7a4 47 = .ok (.istore_n 0, 1) := by decide +kernel
theorem dJ6_bitCount_0f7a4_48 : decode cJ6_bitCount_0f7a4 48 = .ok (.iload_n 0, 1) := by decide +kernel
theorem dJ6_bitCount_0f7a4_49 : decode cJ6_bitCount_0f7a4 49 = .ok (.bipush 63, 2) := by decide +kernel
theorem dJ6_bitCount_0f7a4_51 : decode cJ6_bitCount_0f7a4 51 = .ok (.iand, 1) := by decide +kernel
theorem dJ6_bitCount_0f7a4_52 : decode cJ6_bitCount_0f7a4 52 = .ok (.ireturn, 1) := by decide +kernel
theorem dJ9_max_7cf53_0 : decode cJ9_max_7cf53 0 = .ok (.iload_n 0, 1) := by decide +kernel
theorem dJ9_max_7cf53_1 : decode cJ9_max_7cf53 1 = .ok (.iload_n 1, 1) := by decide +kernel
theorem dJ9_max_7cf53_2 : decode cJ9_max_7cf53 2 = .ok (.if_icmp .lt 7, 3) := by decide +kernel
theorem dJ9_max_7cf53_5 : decode cJ9_max_7cf53 5 = .ok (.iload_n 0, 1) := by decide +kernel
theorem dJ9_max_7cf53_6 : decode cJ9_max_7cf53 6 = .ok (.goto 4, 3) := by decide +kernel
theorem dJ9_max_7cf53_9 : decode cJ9_max_7cf53 9 = .ok (.iload_n 1, 1) := by decide +kernel
theorem dJ9_max_7cf53_10 : decode cJ9_max_7cf53 10 = .ok (.ireturn, 1) := by decide +kernel
theorem dJ9_min_7cf53_0 : decode cJ9_min_7cf53 0 = .ok (.iload_n 0, 1) := by decide +kernel
theorem dJ9_min_7cf53_1 : decode cJ9_min_7cf53 1 = .ok (.iload_n 1, 1) := by decide +kernel
theorem dJ9_min_7cf53_2 : decode cJ9_min_7cf53 2 = .ok (.if_icmp .gt 7, 3) := by decide +kernel
theorem dJ9_min_7cf53_5 : decode cJ9_min_7cf53 5 = .ok (.iload_n 0, 1) := by decide +kernel
theorem dJ9_min_7cf53_6 : decode cJ9_min_7cf53 6 = .ok (.goto 4, 3) := by decide +kernel
theorem dJ9_min_7cf53_9 : decode cJ9_min_7cf53 9 = .ok (.iload_n 1, 1) := by decide +kernel
theorem dJ9_min_7cf53_10 : decode cJ9_min_7cf53 10 = .ok (.ireturn, 1) := by decide +kernel
theorem dL_law_0 : decode cL_law 0 = .ok (.new 7, 3) := by decide +kernel
theorem dL_law_3 : decode cL_law 3 = .ok (.dup, 1) := by decide +kernel
theorem dL_law_4 : decode cL_law 4 = .ok (.invokespecial 9, 3) := by decide +kernel
theorem dL_law_7 : decode cL_law 7 = .ok (.astore_n 1, 1) := by decide +kernel
theorem dL_law_8 : decode cL_law 8 = .ok (.new 10, 3) := by decide +kernel
theorem dL_law_11 : decode cL_law 11 = .ok (.dup, 1) := by decide +kernel
theorem dL_law_12 : decode cL_law 12 = .ok (.invokespecial 12, 3) := by decide +kernel
theorem dL_law_15 : decode cL_law 15 = .ok (.astore_n 2, 1) := by decide +kernel
theorem dL_law_16 : decode cL_law 16 = .ok (.iconst 0, 1) := by decide +kernel
theorem dL_law_17 : decode cL_law 17 = .ok (.istore_n 3, 1) := by decide +kernel
theorem dL_law_18 : decode cL_law 18 = .ok (.iload_n 3, 1) := by decide +kernel
theorem dL_law_19 : decode cL_law 19 = .ok (.aload_n 0, 1) := by decide +kernel
theorem dL_law_20 : decode cL_law 20 = .ok (.arraylength, 1) := by decide +kernel
theorem dL_law_21 : decode cL_law 21 = .ok (.bipush 6, 2) := by decide +kernel
theorem dL_law_23 : decode cL_law 23 = .ok (.isub, 1) := by decide +kernel
theorem dL_law_24 : decode cL_law 24 = .ok (.if_icmp .gt 1404, 3) := by decide +kernel
theorem dL_law_27 : decode cL_law 27 = .ok (.aload_n 0, 1) := by decide +kernel
theorem dL_law_28 : decode cL_law 28 = .ok (.iload_n 3, 1) := by decide +kernel
theorem dL_law_29 : decode cL_law 29 = .ok (.iaload, 1) := by decide +kernel
theorem dL_law_30 : decode cL_law 30 = .ok (.bipush 63, 2) := by decide +kernel
theorem dL_law_32 : decode cL_law 32 = .ok (.iand, 1) := by decide +kernel
theorem dL_law_33 : decode cL_law 33 = .ok (.tableswitch 1389 0 38 #[171, 214, 257, 320, 343, 366, 379, 392, 405, 428, 451, 484, 507, 530, 563, 596, 619, 652, 675, 708, 731, 754, 777, 800, 813, 866, 899, 962, 1025, 1088, 1152, 1195, 1218, 1241, 1264, 1297, 1330, 1353, 1376], 171) := by decide +kernel
theorem dL_law_204 : decode cL_law 204 = .ok (.aload_n 1, 1) := by decide +kernel
theorem dL_law_205 : decode cL_law 205 = .ok (.aload_n 0, 1) := by decide +kernel
theorem dL_law_206 : decode cL_law 206 = .ok (.iload_n 3, 1) := by decide +kernel
theorem dL_law_207 : decode cL_law 207 = .ok (.iconst 1, 1) := by decide +kernel
theorem dL_law_208 : decode cL_law 208 = .ok (.iadd, 1) := by decide +kernel
theorem dL_law_209 : decode cL_law 209 = .ok (.iaload, 1) := by decide +kernel
theorem dL_law_210 : decode cL_law 210 = .ok (.aload_n 0, 1) := by decide +kernel
theorem dL_law_211 : decode cL_law 211 = .ok (.iload_n 3, 1) := by decide +kernel
theorem dL_law_212 : decode cL_law 212 = .ok (.iconst 2, 1) := by decide +kernel
theorem dL_law_213 : decode cL_law 213 = .ok (.iadd, 1) := by decide +kernel
theorem dL_law_214 : decode cL_law 214 = .ok (.iaload, 1) := by decide +kernel
theorem dL_law_215 : decode cL_law 215 = .ok (.aload_n 0, 1) := by decide +kernel
theorem dL_law_216 : decode cL_law 216 = .ok (.iload_n 3, 1) := by decide +kernel
theorem dL_law_217 : decode cL_law 217 = .ok (.iconst 3, 1) := by decide +kernel
theorem dL_law_218 : decode cL_law 218 = .ok (.iadd, 1) := by decide +kernel
theorem dL_law_219 : decode cL_law 219 = .ok (.iaload, 1) := by decide +kernel
theorem dL_law_220 : decode cL_law 220 = .ok (.invokevirtual 13, 3) := by decide +kernel
theorem dL_law_223 : decode cL_law 223 = .ok (.aload_n 2, 1) := by decide +kernel
theorem dL_law_224 : decode cL_law 224 = .ok (.aload_n 0, 1) := by decide +kernel
theorem dL_law_225 : decode cL_law 225 = .ok (.iload_n 3, 1) := by decide +kernel
theorem dL_law_226 : decode cL_law 226 = .ok (.iconst 1, 1) := by decide +kernel
theorem dL_law_227 : decode cL_law 227 = .ok (.iadd, 1) := by decide +kernel
theorem dL_law_228 : decode cL_law 228 = .ok (.iaload, 1) := by decide +kernel
theorem dL_law_229 : decode cL_law 229 = .ok (.aload_n 0, 1) := by decide +kernel
theorem dL_law_230 : decode cL_law 230 = .ok (.iload_n 3, 1) := by decide +kernel
theorem dL_law_231 : decode cL_law 231 = .ok (.iconst 2, 1) := by decide +kernel
theorem dL_law_232 : decode cL_law 232 = .ok (.iadd, 1) := by decide +kernel
theorem dL_law_233 : decode cL_law 233 = .ok (.iaload, 1) := by decide +kernel
theorem dL_law_234 : decode cL_law 234 = .ok (.aload_n 0, 1) := by decide +kernel
theorem dL_law_235 : decode cL_law 235 = .ok (.iload_n 3, 1) := by decide +kernel
theorem dL_law_236 : decode cL_law 236 = .ok (.iconst 3, 1) := by decide +kernel
theorem dL_law_237 : decode cL_law 237 = .ok (.iadd, 1) := by decide +kernel
theorem dL_law_238 : decode cL_law 238 = .ok (.iaload, 1) := by decide +kernel
theorem dL_law_239 : decode cL_law 239 = .ok (.invokevirtual 17, 3) := by decide +kernel
theorem dL_law_242 : decode cL_law 242 = .ok (.if_icmp .eq 1180, 3) := by decide +kernel
theorem dL_law_245 : decode cL_law 245 = .ok (.iconst 0, 1) := by decide +kernel
theorem dL_law_246 : decode cL_law 246 = .ok (.ireturn, 1) := by decide +kernel
theorem dL_law_247 : decode cL_law 247 = .ok (.aload_n 1, 1) := by decide +kernel
theorem dL_law_248 : decode cL_law 248 = .ok (.aload_n 0, 1) := by decide +kernel
theorem dL_law_249 : decode cL_law 249 = .ok (.iload_n 3, 1) := by decide +kernel
theorem dL_law_250 : decode cL_law 250 = .ok (.iconst 1, 1) := by decide +kernel
theorem dL_law_251 : decode cL_law 251 = .ok (.iadd, 1) := by decide +kernel
theorem dL_law_252 : decode cL_law 252 = .ok (.iaload, 1) := by decide +kernel
theorem dL_law_253 : decode cL_law 253 = .ok (.aload_n 0, 1) := by decide +kernel
theorem dL_law_254 : decode cL_law 254 = .ok (.iload_n 3, 1) := by decide +kernel
theorem dL_law_255 : decode cL_law 255 = .ok (.iconst 2, 1) := by decide +kernel
theorem dL_law_256 : decode cL_law 256 = .ok (.iadd, 1) := by decide +kernel
theorem dL_law_257 : decode cL_law 257 = .ok (.iaload, 1) := by decide +kernel
theorem dL_law_258 : decode cL_law 258 = .ok (.aload_n 0, 1) := by decide +kernel
theorem dL_law_259 : decode cL_law 259 = .ok (.iload_n 3, 1) := by decide +kernel
theorem dL_law_260 : decode cL_law 260 = .ok (.iconst 3, 1) := by decide +kernel
theorem dL_law_261 : decode cL_law 261 = .ok (.iadd, 1) := by decide +kernel
theorem dL_law_262 : decode cL_law 262 = .ok (.iaload, 1) := by decide +kernel
theorem dL_law_263 : decode cL_law 263 = .ok (.invokevirtual 18, 3) := by decide +kernel
theorem dL_law_266 : decode cL_law 266 = .ok (.aload_n 2, 1) := by decide +kernel
theorem dL_law_267 : decode cL_law 267 = .ok (.aload_n 0, 1) := by decide +kernel
theorem dL_law_268 : decode cL_law 268 = .ok (.iload_n 3, 1) := by decide +kernel
theorem dL_law_269 : decode cL_law 269 = .ok (.iconst 1, 1) := by decide +kernel
theorem dL_law_270 : decode cL_law 270 = .ok (.iadd, 1) := by decide +kernel
theorem dL_law_271 : decode cL_law 271 = .ok (.iaload, 1) := by decide +kernel
theorem dL_law_272 : decode cL_law 272 = .ok (.aload_n 0, 1) := by decide +kernel
theorem dL_law_273 : decode cL_law 273 = .ok (.iload_n 3, 1) := by decide +kernel
theorem dL_law_274 : decode cL_law 274 = .ok (.iconst 2, 1) := by decide +kernel
theorem dL_law_275 : decode cL_law 275 = .ok (.iadd, 1) := by decide +kernel
theorem dL_law_276 : decode cL_law 276 = .ok (.iaload, 1) := by decide +kernel
theorem dL_law_277 : decode cL_law 277 = .ok (.aload_n 0, 1) := by decide +kernel
theorem dL_law_278 : decode cL_law 278 = .ok (.iload_n 3, 1) := by decide +kernel
theorem dL_law_279 : decode cL_law 279 = .ok (.iconst 3, 1) := by decide +kernel
theorem dL_law_280 : decode cL_law 280 = .ok (.iadd, 1) := by decide +kernel
theorem dL_law_281 : decode cL_law 281 = .ok (.iaload, 1) := by decide +kernel
theorem dL_law_282 : decode cL_law 282 = .ok (.invokevirtual 21, 3) := by decide +kernel
theorem dL_law_285 : decode cL_law 285 = .ok (.if_icmp .eq 1137, 3) := by decide +kernel
theorem dL_law_288 : decode cL_law 288 = .ok (.iconst 0, 1) := by decide +kernel
theorem dL_law_289 : decode cL_law 289 = .ok (.ireturn, 1) := by decide +kernel
theorem dL_law_290 : decode cL_law 290 = .ok (.aload_n 1, 1) := by decide +kernel
theorem dL_law_291 : decode cL_law 291 = .ok (.aload_n 0, 1) := by decide +kernel
theorem dL_law_292 : decode cL_law 292 = .ok (.iload_n 3, 1) := by decide +kernel
theorem dL_law_293 : decode cL_law 293 = .ok (.iconst 1, 1) := by decide +kernel
theorem dL_law_294 : decode cL_law 294 = .ok (.iadd, 1) := by decide +kernel
theorem dL_law_295 : decode cL_law 295 = .ok (.iaload, 1) := by decide +kernel
theorem dL_law_296 : decode cL_law 296 = .ok (.aload_n 0, 1) := by decide +kernel
theorem dL_law_297 : decode cL_law 297 = .ok (.iload_n 3, 1) := by decide +kernel
theorem dL_law_298 : decode cL_law 298 = .ok (.iconst 2, 1) := by decide +kernel
theorem dL_law_299 : decode cL_law 299 = .ok (.iadd, 1) := by decide +kernel
theorem dL_law_300 : decode cL_law 300 = .ok (.iaload, 1) := by decide +kernel
theorem dL_law_301 : decode cL_law 301 = .ok (.aload_n 0, 1) := by decide +kernel
theorem dL_law_302 : decode cL_law 302 = .ok (.iload_n 3, 1) := by decide +kernel
theorem dL_law_303 : decode cL_law 303 = .ok (.iconst 3, 1) := by decide +kernel
theorem dL_law_304 : decode cL_law 304 = .ok (.iadd, 1) := by decide +kernel
theorem dL_law_305 : decode cL_law 305 = .ok (.iaload, 1) := by decide +kernel
theorem dL_law_306 : decode cL_law 306 = .ok (.aload_n 0, 1) := by decide +kernel
theorem dL_law_307 : decode cL_law 307 = .ok (.iload_n 3, 1) := by decide +kernel
theorem dL_law_308 : decode cL_law 308 = .ok (.iconst 4, 1) := by decide +kernel
theorem dL_law_309 : decode cL_law 309 = .ok (.iadd, 1) := by decide +kernel
theorem dL_law_310 : decode cL_law 310 = .ok (.iaload, 1) := by decide +kernel
theorem dL_law_311 : decode cL_law 311 = .ok (.aload_n 0, 1) := by decide +kernel
theorem dL_law_312 : decode cL_law 312 = .ok (.iload_n 3, 1) := by decide +kernel
theorem dL_law_313 : decode cL_law 313 = .ok (.iconst 5, 1) := by decide +kernel
theorem dL_law_314 : decode cL_law 314 = .ok (.iadd, 1) := by decide +kernel
theorem dL_law_315 : decode cL_law 315 = .ok (.iaload, 1) := by decide +kernel
theorem dL_law_316 : decode cL_law 316 = .ok (.invokevirtual 22, 3) := by decide +kernel
theorem dL_law_319 : decode cL_law 319 = .ok (.aload_n 2, 1) := by decide +kernel
theorem dL_law_320 : decode cL_law 320 = .ok (.aload_n 0, 1) := by decide +kernel
theorem dL_law_321 : decode cL_law 321 = .ok (.iload_n 3, 1) := by decide +kernel
theorem dL_law_322 : decode cL_law 322 = .ok (.iconst 1, 1) := by decide +kernel
theorem dL_law_323 : decode cL_law 323 = .ok (.iadd, 1) := by decide +kernel
theorem dL_law_324 : decode cL_law 324 = .ok (.iaload, 1) := by decide +kernel
theorem dL_law_325 : decode cL_law 325 = .ok (.aload_n 0, 1) := by decide +kernel
theorem dL_law_326 : decode cL_law 326 = .ok (.iload_n 3, 1) := by decide +kernel
theorem dL_law_327 : decode cL_law 327 = .ok (.iconst 2, 1) := by decide +kernel
theorem dL_law_328 : decode cL_law 328 = .ok (.iadd, 1) := by decide +kernel
theorem dL_law_329 : decode cL_law 329 = .ok (.iaload, 1) := by decide +kernel
theorem dL_law_330 : decode cL_law 330 = .ok (.aload_n 0, 1) := by decide +kernel
theorem dL_law_331 : decode cL_law 331 = .ok (.iload_n 3, 1) := by decide +kernel
theorem dL_law_332 : decode cL_law 332 = .ok (.iconst 3, 1) := by decide +kernel
theorem dL_law_333 : decode cL_law 333 = .ok (.iadd, 1) := by decide +kernel
theorem dL_law_334 : decode cL_law 334 = .ok (.iaload, 1) := by decide +kernel
theorem dL_law_335 : decode cL_law 335 = .ok (.aload_n 0, 1) := by decide +kernel
theorem dL_law_336 : decode cL_law 336 = .ok (.iload_n 3, 1) := by decide +kernel
theorem dL_law_337 : decode cL_law 337 = .ok (.iconst 4, 1) := by decide +kernel
theorem dL_law_338 : decode cL_law 338 = .ok (.iadd, 1) := by decide +kernel
theorem dL_law_339 : decode cL_law 339 = .ok (.iaload, 1) := by decide +kernel
theorem dL_law_340 : decode cL_law 340 = .ok (.aload_n 0, 1) := by decide +kernel
theorem dL_law_341 : decode cL_law 341 = .ok (.iload_n 3, 1) := by decide +kernel
theorem dL_law_342 : decode cL_law 342 = .ok (.iconst 5, 1) := by decide +kernel
theorem dL_law_343 : decode cL_law 343 = .ok (.iadd, 1) := by decide +kernel
theorem dL_law_344 : decode cL_law 344 = .ok (.iaload, 1) := by decide +kernel
theorem dL_law_345 : decode cL_law 345 = .ok (.invokevirtual 26, 3) := by decide +kernel
theorem dL_law_348 : decode cL_law 348 = .ok (.if_icmp .eq 1074, 3) := by decide +kernel
theorem dL_law_351 : decode cL_law 351 = .ok (.iconst 0, 1) := by decide +kernel
theorem dL_law_352 : decode cL_law 352 = .ok (.ireturn, 1) := by decide +kernel
theorem dL_law_353 : decode cL_law 353 = .ok (.aload_n 1, 1) := by decide +kernel
theorem dL_law_354 : decode cL_law 354 = .ok (.aload_n 0, 1) := by decide +kernel
theorem dL_law_355 : decode cL_law 355 = .ok (.iload_n 3, 1) := by decide +kernel
theorem dL_law_356 : decode cL_law 356 = .ok (.iconst 1, 1) := by decide +kernel
theorem dL_law_357 : decode cL_law 357 = .ok (.iadd, 1) := by decide +kernel
theorem dL_law_358 : decode cL_law 358 = .ok (.iaload, 1) := by decide +kernel
theorem dL_law_359 : decode cL_law 359 = .ok (.invokevirtual 27, 3) := by decide +kernel
theorem dL_law_362 : decode cL_law 362 = .ok (.aload_n 2, 1) := by decide +kernel
theorem dL_law_363 : decode cL_law 363 = .ok (.aload_n 0, 1) := by decide +kernel
theorem dL_law_364 : decode cL_law 364 = .ok (.iload_n 3, 1) := by decide +kernel
theorem dL_law_365 : decode cL_law 365 = .ok (.iconst 1, 1) := by decide +kernel
theorem dL_law_366 : decode cL_law 366 = .ok (.iadd, 1) := by decide +kernel
theorem dL_law_367 : decode cL_law 367 = .ok (.iaload, 1) := by decide +kernel
theorem dL_law_368 : decode cL_law 368 = .ok (.invokevirtual 31, 3) := by decide +kernel
theorem dL_law_371 : decode cL_law 371 = .ok (.if_icmp .eq 1051, 3) := by decide +kernel
theorem dL_law_374 : decode cL_law 374 = .ok (.iconst 0, 1) := by decide +kernel
theorem dL_law_375 : decode cL_law 375 = .ok (.ireturn, 1) := by decide +kernel
theorem dL_law_376 : decode cL_law 376 = .ok (.aload_n 1, 1) := by decide +kernel
theorem dL_law_377 : decode cL_law 377 = .ok (.aload_n 0, 1) := by decide +kernel
theorem dL_law_378 : decode cL_law 378 = .ok (.iload_n 3, 1) := by decide +kernel
theorem dL_law_379 : decode cL_law 379 = .ok (.iconst 1, 1) := by decide +kernel
theorem dL_law_380 : decode cL_law 380 = .ok (.iadd, 1) := by decide +kernel
theorem dL_law_381 : decode cL_law 381 = .ok (.iaload, 1) := by decide +kernel
theorem dL_law_382 : decode cL_law 382 = .ok (.invokevirtual 32, 3) := by decide +kernel
theorem dL_law_385 : decode cL_law 385 = .ok (.aload_n 2, 1) := by decide +kernel
theorem dL_law_386 : decode cL_law 386 = .ok (.aload_n 0, 1) := by decide +kernel
theorem dL_law_387 : decode cL_law 387 = .ok (.iload_n 3, 1) := by decide +kernel
theorem dL_law_388 : decode cL_law 388 = .ok (.iconst 1, 1) := by decide +kernel
theorem dL_law_389 : decode cL_law 389 = .ok (.iadd, 1) := by decide +kernel
theorem dL_law_390 : decode cL_law 390 = .ok (.iaload, 1) := by decide +kernel
theorem dL_law_391 : decode cL_law 391 = .ok (.invokevirtual 35, 3) := by decide +kernel
theorem dL_law_394 : decode cL_law 394 = .ok (.if_icmp .eq 1028, 3) := by decide +kernel
theorem dL_law_397 : decode cL_law 397 = .ok (.iconst 0, 1) := by decide +kernel
theorem dL_law_398 : decode cL_law 398 = .ok (.ireturn, 1) := by decide +kernel
theorem dL_law_399 : decode cL_law 399 = .ok (.aload_n 1, 1) := by decide +kernel
theorem dL_law_400 : decode cL_law 400 = .ok (.invokevirtual 36, 3) := by decide +kernel
theorem dL_law_403 : decode cL_law 403 = .ok (.aload_n 2, 1) := by decide +kernel
theorem dL_law_404 : decode cL_law 404 = .ok (.invokevirtual 40, 3) := by decide +kernel
theorem dL_law_407 : decode cL_law 407 = .ok (.if_icmp .eq 1015, 3) := by decide +kernel
theorem dL_law_410 : decode cL_law 410 = .ok (.iconst 0, 1) := by decide +kernel
theorem dL_law_411 : decode cL_law 411 = .ok (.ireturn, 1) := by decide +kernel
theorem dL_law_412 : decode cL_law 412 = .ok (.aload_n 1, 1) := by decide +kernel
theorem dL_law_413 : decode cL_law 413 = .ok (.invokevirtual 41, 3) := by decide +kernel
theorem dL_law_416 : decode cL_law 416 = .ok (.aload_n 2, 1) := by decide +kernel
theorem dL_law_417 : decode cL_law 417 = .ok (.invokevirtual 44, 3) := by decide +kernel
theorem dL_law_420 : decode cL_law 420 = .ok (.if_icmp .eq 1002, 3) := by decide +kernel
theorem dL_law_423 : decode cL_law 423 = .ok (.iconst 0, 1) := by decide +kernel
theorem dL_law_424 : decode cL_law 424 = .ok (.ireturn, 1) := by decide +kernel
theorem dL_law_425 : decode cL_law 425 = .ok (.aload_n 1, 1) := by decide +kernel
theorem dL_law_426 : decode cL_law 426 = .ok (.invokevirtual 45, 3) := by decide +kernel
theorem dL_law_429 : decode cL_law 429 = .ok (.aload_n 2, 1) := by decide +kernel
theorem dL_law_430 : decode cL_law 430 = .ok (.invokevirtual 48, 3) := by decide +kernel
theorem dL_law_433 : decode cL_law 433 = .ok (.if_icmp .eq 989, 3) := by decide +kernel
theorem dL_law_436 : decode cL_law 436 = .ok (.iconst 0, 1) := by decide +kernel
theorem dL_law_437 : decode cL_law 437 = .ok (.ireturn, 1) := by decide +kernel
theorem dL_law_438 : decode cL_law 438 = .ok (.aload_n 1, 1) := by decide +kernel
theorem dL_law_439 : decode cL_law 439 = .ok (.aload_n 0, 1) := by decide +kernel
theorem dL_law_440 : decode cL_law 440 = .ok (.iload_n 3, 1) := by decide +kernel
theorem dL_law_441 : decode cL_law 441 = .ok (.iconst 1, 1) := by decide +kernel
theorem dL_law_442 : decode cL_law 442 = .ok (.iadd, 1) := by decide +kernel
theorem dL_law_443 : decode cL_law 443 = .ok (.iaload, 1) := by decide +kernel
theorem dL_law_444 : decode cL_law 444 = .ok (.invokevirtual 49, 3) := by decide +kernel
theorem dL_law_447 : decode cL_law 447 = .ok (.aload_n 2, 1) := by decide +kernel
theorem dL_law_448 : decode cL_law 448 = .ok (.aload_n 0, 1) := by decide +kernel
theorem dL_law_449 : decode cL_law 449 = .ok (.iload_n 3, 1) := by decide +kernel
theorem dL_law_450 : decode cL_law 450 = .ok (.iconst 1, 1) := by decide +kernel
theorem dL_law_451 : decode cL_law 451 = .ok (.iadd, 1) := by decide +kernel
theorem dL_law_452 : decode cL_law 452 = .ok (.iaload, 1) := by decide +kernel
theorem dL_law_453 : decode cL_law 453 = .ok (.invokevirtual 52, 3) := by decide +kernel
theorem dL_law_456 : decode cL_law 456 = .ok (.if_icmp .eq 966, 3) := by decide +kernel
theorem dL_law_459 : decode cL_law 459 = .ok (.iconst 0, 1) := by decide +kernel
theorem dL_law_460 : decode cL_law 460 = .ok (.ireturn, 1) := by decide +kernel
theorem dL_law_461 : decode cL_law 461 = .ok (.aload_n 1, 1) := by decide +kernel
theorem dL_law_462 : decode cL_law 462 = .ok (.aload_n 0, 1) := by decide +kernel
theorem dL_law_463 : decode cL_law 463 = .ok (.iload_n 3, 1) := by decide +kernel
theorem dL_law_464 : decode cL_law 464 = .ok (.iconst 1, 1) := by decide +kernel
theorem dL_law_465 : decode cL_law 465 = .ok (.iadd, 1) := by decide +kernel
theorem dL_law_466 : decode cL_law 466 = .ok (.iaload, 1) := by decide +kernel
theorem dL_law_467 : decode cL_law 467 = .ok (.invokevirtual 53, 3) := by decide +kernel
theorem dL_law_470 : decode cL_law 470 = .ok (.aload_n 2, 1) := by decide +kernel
theorem dL_law_471 : decode cL_law 471 = .ok (.aload_n 0, 1) := by decide +kernel
theorem dL_law_472 : decode cL_law 472 = .ok (.iload_n 3, 1) := by decide +kernel
theorem dL_law_473 : decode cL_law 473 = .ok (.iconst 1, 1) := by decide +kernel
theorem dL_law_474 : decode cL_law 474 = .ok (.iadd, 1) := by decide +kernel
theorem dL_law_475 : decode cL_law 475 = .ok (.iaload, 1) := by decide +kernel
theorem dL_law_476 : decode cL_law 476 = .ok (.invokevirtual 56, 3) := by decide +kernel
theorem dL_law_479 : decode cL_law 479 = .ok (.if_icmp .eq 943, 3) := by decide +kernel
theorem dL_law_482 : decode cL_law 482 = .ok (.iconst 0, 1) := by decide +kernel
theorem dL_law_483 : decode cL_law 483 = .ok (.ireturn, 1) := by decide +kernel
theorem dL_law_484 : decode cL_law 484 = .ok (.aload_n 1, 1) := by decide +kernel
theorem dL_law_485 : decode cL_law 485 = .ok (.aload_n 0, 1) := by decide +kernel
theorem dL_law_486 : decode cL_law 486 = .ok (.iload_n 3, 1) := by decide +kernel
theorem dL_law_487 : decode cL_law 487 = .ok (.iconst 1, 1) := by decide +kernel
theorem dL_law_488 : decode cL_law 488 = .ok (.iadd, 1) := by decide +kernel
theorem dL_law_489 : decode cL_law 489 = .ok (.iaload, 1) := by decide +kernel
theorem dL_law_490 : decode cL_law 490 = .ok (.aload_n 0, 1) := by decide +kernel
theorem dL_law_491 : decode cL_law 491 = .ok (.iload_n 3, 1) := by decide +kernel
theorem dL_law_492 : decode cL_law 492 = .ok (.iconst 2, 1) := by decide +kernel
theorem dL_law_493 : decode cL_law 493 = .ok (.iadd, 1) := by decide +kernel
theorem dL_law_494 : decode cL_law 494 = .ok (.iaload, 1) := by decide +kernel
theorem dL_law_495 : decode cL_law 495 = .ok (.invokevirtual 57, 3) := by decide +kernel
theorem dL_law_498 : decode cL_law 498 = .ok (.aload_n 2, 1) := by decide +kernel
theorem dL_law_499 : decode cL_law 499 = .ok (.aload_n 0, 1) := by decide +kernel
theorem dL_law_500 : decode cL_law 500 = .ok (.iload_n 3, 1) := by decide +kernel
theorem dL_law_501 : decode cL_law 501 = .ok (.iconst 1, 1) := by decide +kernel
theorem dL_law_502 : decode cL_law 502 = .ok (.iadd, 1) := by decide +kernel
theorem dL_law_503 : decode cL_law 503 = .ok (.iaload, 1) := by decide +kernel
theorem dL_law_504 : decode cL_law 504 = .ok (.aload_n 0, 1) := by decide +kernel
theorem dL_law_505 : decode cL_law 505 = .ok (.iload_n 3, 1) := by decide +kernel
theorem dL_law_506 : decode cL_law 506 = .ok (.iconst 2, 1) := by decide +kernel
theorem dL_law_507 : decode cL_law 507 = .ok (.iadd, 1) := by decide +kernel
theorem dL_law_508 : decode cL_law 508 = .ok (.iaload, 1) := by decide +kernel
theorem dL_law_509 : decode cL_law 509 = .ok (.invokevirtual 61, 3) := by decide +kernel
theorem dL_law_512 : decode cL_law 512 = .ok (.if_icmp .eq 910, 3) := by decide +kernel
theorem dL_law_515 : decode cL_law 515 = .ok (.iconst 0, 1) := by decide +kernel
theorem dL_law_516 : decode cL_law 516 = .ok (.ireturn, 1) := by decide +kernel
theorem dL_law_517 : decode cL_law 517 = .ok (.aload_n 1, 1) := by decide +kernel
theorem dL_law_518 : decode cL_law 518 = .ok (.aload_n 0, 1) := by decide +kernel
theorem dL_law_519 : decode cL_law 519 = .ok (.iload_n 3, 1) := by decide +kernel
theorem dL_law_520 : decode cL_law 520 = .ok (.iconst 1, 1) := by decide +kernel
theorem dL_law_521 : decode cL_law 521 = .ok (.iadd, 1) := by decide +kernel
theorem dL_law_522 : decode cL_law 522 = .ok (.iaload, 1) := by decide +kernel
theorem dL_law_523 : decode cL_law 523 = .ok (.invokevirtual 62, 3) := by decide +kernel
theorem dL_law_526 : decode cL_law 526 = .ok (.aload_n 2, 1) := by decide +kernel
theorem dL_law_527 : decode cL_law 527 = .ok (.aload_n 0, 1) := by decide +kernel
theorem dL_law_528 : decode cL_law 528 = .ok (.iload_n 3, 1) := by decide +kernel
theorem dL_law_529 : decode cL_law 529 = .ok (.iconst 1, 1) := by decide +kernel
theorem dL_law_530 : decode cL_law 530 = .ok (.iadd, 1) := by decide +kernel
theorem dL_law_531 : decode cL_law 531 = .ok (.iaload, 1) := by decide +kernel
theorem dL_law_532 : decode cL_law 532 = .ok (.invokevirtual 65, 3) := by decide +kernel
theorem dL_law_535 : decode cL_law 535 = .ok (.if_icmp .eq 887, 3) := by decide +kernel
theorem dL_law_538 : decode cL_law 538 = .ok (.iconst 0, 1) := by decide +kernel
theorem dL_law_539 : decode cL_law 539 = .ok (.ireturn, 1) := by decide +kernel
theorem dL_law_540 : decode cL_law 540 = .ok (.aload_n 1, 1) := by decide +kernel
theorem dL_law_541 : decode cL_law 541 = .ok (.aload_n 0, 1) := by decide +kernel
theorem dL_law_542 : decode cL_law 542 = .ok (.iload_n 3, 1) := by decide +kernel
theorem dL_law_543 : decode cL_law 543 = .ok (.iconst 1, 1) := by decide +kernel
theorem dL_law_544 : decode cL_law 544 = .ok (.iadd, 1) := by decide +kernel
theorem dL_law_545 : decode cL_law 545 = .ok (.iaload, 1) := by decide +kernel
theorem dL_law_546 : decode cL_law 546 = .ok (.invokevirtual 66, 3) := by decide +kernel
theorem dL_law_549 : decode cL_law 549 = .ok (.aload_n 2, 1) := by decide +kernel
theorem dL_law_550 : decode cL_law 550 = .ok (.aload_n 0, 1) := by decide +kernel
theorem dL_law_551 : decode cL_law 551 = .ok (.iload_n 3, 1) := by decide +kernel
theorem dL_law_552 : decode cL_law 552 = .ok (.iconst 1, 1) := by decide +kernel
theorem dL_law_553 : decode cL_law 553 = .ok (.iadd, 1) := by decide +kernel
theorem dL_law_554 : decode cL_law 554 = .ok (.iaload, 1) := by decide +kernel
theorem dL_law_555 : decode cL_law 555 = .ok (.invokevirtual 69, 3) := by decide +kernel
theorem dL_law_558 : decode cL_law 558 = .ok (.if_icmp .eq 864, 3) := by decide +kernel
theorem dL_law_561 : decode cL_law 561 = .ok (.iconst 0, 1) := by decide +kernel
theorem dL_law_562 : decode cL_law 562 = .ok (.ireturn, 1) := by decide +kernel
theorem dL_law_563 : decode cL_law 563 = .ok (.aload_n 1, 1) := by decide +kernel
theorem dL_law_564 : decode cL_law 564 = .ok (.aload_n 0, 1) := by decide +kernel
theorem dL_law_565 : decode cL_law 565 = .ok (.iload_n 3, 1) := by decide +kernel
theorem dL_law_566 : decode cL_law 566 = .ok (.iconst 1, 1) := by decide +kernel
theorem dL_law_567 : decode cL_law 567 = .ok (.iadd, 1) := by decide +kernel
theorem dL_law_568 : decode cL_law 568 = .ok (.iaload, 1) := by decide +kernel
theorem dL_law_569 : decode cL_law 569 = .ok (.aload_n 0, 1) := by decide +kernel
theorem dL_law_570 : decode cL_law 570 = .ok (.iload_n 3, 1) := by decide +kernel
theorem dL_law_571 : decode cL_law 571 = .ok (.iconst 2, 1) := by decide +kernel
theorem dL_law_572 : decode cL_law 572 = .ok (.iadd, 1) := by decide +kernel
theorem dL_law_573 : decode cL_law 573 = .ok (.iaload, 1) := by decide +kernel
theorem dL_law_574 : decode cL_law 574 = .ok (.invokevirtual 70, 3) := by decide +kernel
theorem dL_law_577 : decode cL_law 577 = .ok (.aload_n 2, 1) := by decide +kernel
theorem dL_law_578 : decode cL_law 578 = .ok (.aload_n 0, 1) := by decide +kernel
theorem dL_law_579 : decode cL_law 579 = .ok (.iload_n 3, 1) := by decide +kernel
theorem dL_law_580 : decode cL_law 580 = .ok (.iconst 1, 1) := by decide +kernel
theorem dL_law_581 : decode cL_law 581 = .ok (.iadd, 1) := by decide +kernel
theorem dL_law_582 : decode cL_law 582 = .ok (.iaload, 1) := by decide +kernel
theorem dL_law_583 : decode cL_law 583 = .ok (.aload_n 0, 1) := by decide +kernel
theorem dL_law_584 : decode cL_law 584 = .ok (.iload_n 3, 1) := by decide +kernel
theorem dL_law_585 : decode cL_law 585 = .ok (.iconst 2, 1) := by decide +kernel
theorem dL_law_586 : decode cL_law 586 = .ok (.iadd, 1) := by decide +kernel
theorem dL_law_587 : decode cL_law 587 = .ok (.iaload, 1) := by decide +kernel
theorem dL_law_588 : decode cL_law 588 = .ok (.invokevirtual 73, 3) := by decide +kernel
theorem dL_law_591 : decode cL_law 591 = .ok (.if_icmp .eq 831, 3) := by decide +kernel
theorem dL_law_594 : decode cL_law 594 = .ok (.iconst 0, 1) := by decide +kernel
theorem dL_law_595 : decode cL_law 595 = .ok (.ireturn, 1) := by decide +kernel
theorem dL_law_596 : decode cL_law 596 = .ok (.aload_n 1, 1) := by decide +kernel
theorem dL_law_597 : decode cL_law 597 = .ok (.aload_n 0, 1) := by decide +kernel
theorem dL_law_598 : decode cL_law 598 = .ok (.iload_n 3, 1) := by decide +kernel
theorem dL_law_599 : decode cL_law 599 = .ok (.iconst 1, 1) := by decide +kernel
theorem dL_law_600 : decode cL_law 600 = .ok (.iadd, 1) := by decide +kernel
theorem dL_law_601 : decode cL_law 601 = .ok (.iaload, 1) := by decide +kernel
theorem dL_law_602 : decode cL_law 602 = .ok (.aload_n 0, 1) := by decide +kernel
theorem dL_law_603 : decode cL_law 603 = .ok (.iload_n 3, 1) := by decide +kernel
theorem dL_law_604 : decode cL_law 604 = .ok (.iconst 2, 1) := by decide +kernel
theorem dL_law_605 : decode cL_law 605 = .ok (.iadd, 1) := by decide +kernel
theorem dL_law_606 : decode cL_law 606 = .ok (.iaload, 1) := by decide +kernel
theorem dL_law_607 : decode cL_law 607 = .ok (.invokevirtual 74, 3) := by decide +kernel
theorem dL_law_610 : decode cL_law 610 = .ok (.aload_n 2, 1) := by decide +kernel
theorem dL_law_611 : decode cL_law 611 = .ok (.aload_n 0, 1) := by decide +kernel
theorem dL_law_612 : decode cL_law 612 = .ok (.iload_n 3, 1) := by decide +kernel
theorem dL_law_613 : decode cL_law 613 = .ok (.iconst 1, 1) := by decide +kernel
theorem dL_law_614 : decode cL_law 614 = .ok (.iadd, 1) := by decide +kernel
theorem dL_law_615 : decode cL_law 615 = .ok (.iaload, 1) := by decide +kernel
theorem dL_law_616 : decode cL_law 616 = .ok (.aload_n 0, 1) := by decide +kernel
theorem dL_law_617 : decode cL_law 617 = .ok (.iload_n 3, 1) := by decide +kernel
theorem dL_law_618 : decode cL_law 618 = .ok (.iconst 2, 1) := by decide +kernel
theorem dL_law_619 : decode cL_law 619 = .ok (.iadd, 1) := by decide +kernel
theorem dL_law_620 : decode cL_law 620 = .ok (.iaload, 1) := by decide +kernel
theorem dL_law_621 : decode cL_law 621 = .ok (.invokevirtual 77, 3) := by decide +kernel
theorem dL_law_624 : decode cL_law 624 = .ok (.if_icmp .eq 798, 3) := by decide +kernel
theorem dL_law_627 : decode cL_law 627 = .ok (.iconst 0, 1) := by decide +kernel
theorem dL_law_628 : decode cL_law 628 = .ok (.ireturn, 1) := by decide +kernel
theorem dL_law_629 : decode cL_law 629 = .ok (.aload_n 1, 1) := by decide +kernel
theorem dL_law_630 : decode cL_law 630 = .ok (.aload_n 0, 1) := by decide +kernel
theorem dL_law_631 : decode cL_law 631 = .ok (.iload_n 3, 1) := by decide +kernel
theorem dL_law_632 : decode cL_law 632 = .ok (.iconst 1, 1) := by decide +kernel
theorem dL_law_633 : decode cL_law 633 = .ok (.iadd, 1) := by decide +kernel
theorem dL_law_634 : decode cL_law 634 = .ok (.iaload, 1) := by decide +kernel
theorem dL_law_635 : decode cL_law 635 = .ok (.invokevirtual 78, 3) := by decide +kernel
theorem dL_law_638 : decode cL_law 638 = .ok (.aload_n 2, 1) := by decide +kernel
theorem dL_law_639 : decode cL_law 639 = .ok (.aload_n 0, 1) := by decide +kernel
theorem dL_law_640 : decode cL_law 640 = .ok (.iload_n 3, 1) := by decide +kernel
theorem dL_law_641 : decode cL_law 641 = .ok (.iconst 1, 1) := by decide +kernel
theorem dL_law_642 : decode cL_law 642 = .ok (.iadd, 1) := by decide +kernel
theorem dL_law_643 : decode cL_law 643 = .ok (.iaload, 1) := by decide +kernel
theorem dL_law_644 : decode cL_law 644 = .ok (.invokevirtual 81, 3) := by decide +kernel
theorem dL_law_647 : decode cL_law 647 = .ok (.if_icmp .eq 775, 3) := by decide +kernel
theorem dL_law_650 : decode cL_law 650 = .ok (.iconst 0, 1) := by decide +kernel
theorem dL_law_651 : decode cL_law 651 = .ok (.ireturn, 1) := by decide +kernel
theorem dL_law_652 : decode cL_law 652 = .ok (.aload_n 1, 1) := by decide +kernel
theorem dL_law_653 : decode cL_law 653 = .ok (.aload_n 0, 1) := by decide +kernel
theorem dL_law_654 : decode cL_law 654 = .ok (.iload_n 3, 1) := by decide +kernel
theorem dL_law_655 : decode cL_law 655 = .ok (.iconst 1, 1) := by decide +kernel
theorem dL_law_656 : decode cL_law 656 = .ok (.iadd, 1) := by decide +kernel
theorem dL_law_657 : decode cL_law 657 = .ok (.iaload, 1) := by decide +kernel
theorem dL_law_658 : decode cL_law 658 = .ok (.aload_n 0, 1) := by decide +kernel
theorem dL_law_659 : decode cL_law 659 = .ok (.iload_n 3, 1) := by decide +kernel
theorem dL_law_660 : decode cL_law 660 = .ok (.iconst 2, 1) := by decide +kernel
theorem dL_law_661 : decode cL_law 661 = .ok (.iadd, 1) := by decide +kernel
theorem dL_law_662 : decode cL_law 662 = .ok (.iaload, 1) := by decide +kernel
theorem dL_law_663 : decode cL_law 663 = .ok (.invokevirtual 82, 3) := by decide +kernel
theorem dL_law_666 : decode cL_law 666 = .ok (.aload_n 2, 1) := by decide +kernel
theorem dL_law_667 : decode cL_law 667 = .ok (.aload_n 0, 1) := by decide +kernel
theorem dL_law_668 : decode cL_law 668 = .ok (.iload_n 3, 1) := by decide +kernel
theorem dL_law_669 : decode cL_law 669 = .ok (.iconst 1, 1) := by decide +kernel
theorem dL_law_670 : decode cL_law 670 = .ok (.iadd, 1) := by decide +kernel
theorem dL_law_671 : decode cL_law 671 = .ok (.iaload, 1) := by decide +kernel
theorem dL_law_672 : decode cL_law 672 = .ok (.aload_n 0, 1) := by decide +kernel
theorem dL_law_673 : decode cL_law 673 = .ok (.iload_n 3, 1) := by decide +kernel
theorem dL_law_674 : decode cL_law 674 = .ok (.iconst 2, 1) := by decide +kernel
theorem dL_law_675 : decode cL_law 675 = .ok (.iadd, 1) := by decide +kernel
theorem dL_law_676 : decode cL_law 676 = .ok (.iaload, 1) := by decide +kernel
theorem dL_law_677 : decode cL_law 677 = .ok (.invokevirtual 85, 3) := by decide +kernel
theorem dL_law_680 : decode cL_law 680 = .ok (.if_icmp .eq 742, 3) := by decide +kernel
theorem dL_law_683 : decode cL_law 683 = .ok (.iconst 0, 1) := by decide +kernel
theorem dL_law_684 : decode cL_law 684 = .ok (.ireturn, 1) := by decide +kernel
theorem dL_law_685 : decode cL_law 685 = .ok (.aload_n 1, 1) := by decide +kernel
theorem dL_law_686 : decode cL_law 686 = .ok (.aload_n 0, 1) := by decide +kernel
theorem dL_law_687 : decode cL_law 687 = .ok (.iload_n 3, 1) := by decide +kernel
theorem dL_law_688 : decode cL_law 688 = .ok (.iconst 1, 1) := by decide +kernel
theorem dL_law_689 : decode cL_law 689 = .ok (.iadd, 1) := by decide +kernel
theorem dL_law_690 : decode cL_law 690 = .ok (.iaload, 1) := by decide +kernel
theorem dL_law_691 : decode cL_law 691 = .ok (.invokevirtual 86, 3) := by decide +kernel
theorem dL_law_694 : decode cL_law 694 = .ok (.aload_n 2, 1) := by decide +kernel
theorem dL_law_695 : decode cL_law 695 = .ok (.aload_n 0, 1) := by decide +kernel
theorem dL_law_696 : decode cL_law 696 = .ok (.iload_n 3, 1) := by decide +kernel
theorem dL_law_697 : decode cL_law 697 = .ok (.iconst 1, 1) := by decide +kernel
theorem dL_law_698 : decode cL_law 698 = .ok (.iadd, 1) := by decide +kernel
theorem dL_law_699 : decode cL_law 699 = .ok (.iaload, 1) := by decide +kernel
theorem dL_law_700 : decode cL_law 700 = .ok (.invokevirtual 89, 3) := by decide +kernel
theorem dL_law_703 : decode cL_law 703 = .ok (.if_icmp .eq 719, 3) := by decide +kernel
theorem dL_law_706 : decode cL_law 706 = .ok (.iconst 0, 1) := by decide +kernel
theorem dL_law_707 : decode cL_law 707 = .ok (.ireturn, 1) := by decide +kernel
theorem dL_law_708 : decode cL_law 708 = .ok (.aload_n 1, 1) := by decide +kernel
theorem dL_law_709 : decode cL_law 709 = .ok (.aload_n 0, 1) := by decide +kernel
theorem dL_law_710 : decode cL_law 710 = .ok (.iload_n 3, 1) := by decide +kernel
theorem dL_law_711 : decode cL_law 711 = .ok (.iconst 1, 1) := by decide +kernel
theorem dL_law_712 : decode cL_law 712 = .ok (.iadd, 1) := by decide +kernel
theorem dL_law_713 : decode cL_law 713 = .ok (.iaload, 1) := by decide +kernel
theorem dL_law_714 : decode cL_law 714 = .ok (.aload_n 0, 1) := by decide +kernel
theorem dL_law_715 : decode cL_law 715 = .ok (.iload_n 3, 1) := by decide +kernel
theorem dL_law_716 : decode cL_law 716 = .ok (.iconst 2, 1) := by decide +kernel
theorem dL_law_717 : decode cL_law 717 = .ok (.iadd, 1) := by decide +kernel
theorem dL_law_718 : decode cL_law 718 = .ok (.iaload, 1) := by decide +kernel
theorem dL_law_719 : decode cL_law 719 = .ok (.invokevirtual 90, 3) := by decide +kernel
theorem dL_law_722 : decode cL_law 722 = .ok (.aload_n 2, 1) := by decide +kernel
theorem dL_law_723 : decode cL_law 723 = .ok (.aload_n 0, 1) := by decide +kernel
theorem dL_law_724 : decode cL_law 724 = .ok (.iload_n 3, 1) := by decide +kernel
theorem dL_law_725 : decode cL_law 725 = .ok (.iconst 1, 1) := by decide +kernel
theorem dL_law_726 : decode cL_law 726 = .ok (.iadd, 1) := by decide +kernel
theorem dL_law_727 : decode cL_law 727 = .ok (.iaload, 1) := by decide +kernel
theorem dL_law_728 : decode cL_law 728 = .ok (.aload_n 0, 1) := by decide +kernel
theorem dL_law_729 : decode cL_law 729 = .ok (.iload_n 3, 1) := by decide +kernel
theorem dL_law_730 : decode cL_law 730 = .ok (.iconst 2, 1) := by decide +kernel
theorem dL_law_731 : decode cL_law 731 = .ok (.iadd, 1) := by decide +kernel
theorem dL_law_732 : decode cL_law 732 = .ok (.iaload, 1) := by decide +kernel
theorem dL_law_733 : decode cL_law 733 = .ok (.invokevirtual 93, 3) := by decide +kernel
theorem dL_law_736 : decode cL_law 736 = .ok (.if_icmp .eq 686, 3) := by decide +kernel
theorem dL_law_739 : decode cL_law 739 = .ok (.iconst 0, 1) := by decide +kernel
theorem dL_law_740 : decode cL_law 740 = .ok (.ireturn, 1) := by decide +kernel
theorem dL_law_741 : decode cL_law 741 = .ok (.aload_n 1, 1) := by decide +kernel
theorem dL_law_742 : decode cL_law 742 = .ok (.aload_n 0, 1) := by decide +kernel
theorem dL_law_743 : decode cL_law 743 = .ok (.iload_n 3, 1) := by decide +kernel
theorem dL_law_744 : decode cL_law 744 = .ok (.iconst 1, 1) := by decide +kernel
theorem dL_law_745 : decode cL_law 745 = .ok (.iadd, 1) := by decide +kernel
theorem dL_law_746 : decode cL_law 746 = .ok (.iaload, 1) := by decide +kernel
theorem dL_law_747 : decode cL_law 747 = .ok (.invokevirtual 94, 3) := by decide +kernel
theorem dL_law_750 : decode cL_law 750 = .ok (.aload_n 2, 1) := by decide +kernel
theorem dL_law_751 : decode cL_law 751 = .ok (.aload_n 0, 1) := by decide +kernel
theorem dL_law_752 : decode cL_law 752 = .ok (.iload_n 3, 1) := by decide +kernel
theorem dL_law_753 : decode cL_law 753 = .ok (.iconst 1, 1) := by decide +kernel
theorem dL_law_754 : decode cL_law 754 = .ok (.iadd, 1) := by decide +kernel
theorem dL_law_755 : decode cL_law 755 = .ok (.iaload, 1) := by decide +kernel
theorem dL_law_756 : decode cL_law 756 = .ok (.invokevirtual 97, 3) := by decide +kernel
theorem dL_law_759 : decode cL_law 759 = .ok (.if_icmp .eq 663, 3) := by decide +kernel
theorem dL_law_762 : decode cL_law 762 = .ok (.iconst 0, 1) := by decide +kernel
theorem dL_law_763 : decode cL_law 763 = .ok (.ireturn, 1) := by decide +kernel
theorem dL_law_764 : decode cL_law 764 = .ok (.aload_n 1, 1) := by decide +kernel
theorem dL_law_765 : decode cL_law 765 = .ok (.aload_n 0, 1) := by decide +kernel
theorem dL_law_766 : decode cL_law 766 = .ok (.iload_n 3, 1) := by decide +kernel
theorem dL_law_767 : decode cL_law 767 = .ok (.iconst 1, 1) := by decide +kernel
theorem dL_law_768 : decode cL_law 768 = .ok (.iadd, 1) := by decide +kernel
theorem dL_law_769 : decode cL_law 769 = .ok (.iaload, 1) := by decide +kernel
theorem dL_law_770 : decode cL_law 770 = .ok (.invokevirtual 98, 3) := by decide +kernel
theorem dL_law_773 : decode cL_law 773 = .ok (.aload_n 2, 1) := by decide +kernel
theorem dL_law_774 : decode cL_law 774 = .ok (.aload_n 0, 1) := by decide +kernel
theorem dL_law_775 : decode cL_law 775 = .ok (.iload_n 3, 1) := by decide +kernel
theorem dL_law_776 : decode cL_law 776 = .ok (.iconst 1, 1) := by decide +kernel
theorem dL_law_777 : decode cL_law 777 = .ok (.iadd, 1) := by decide +kernel
theorem dL_law_778 : decode cL_law 778 = .ok (.iaload, 1) := by decide +kernel
theorem dL_law_779 : decode cL_law 779 = .ok (.invokevirtual 101, 3) := by decide +kernel
theorem dL_law_782 : decode cL_law 782 = .ok (.if_icmp .eq 640, 3) := by decide +kernel
theorem dL_law_785 : decode cL_law 785 = .ok (.iconst 0, 1) := by decide +kernel
theorem dL_law_786 : decode cL_law 786 = .ok (.ireturn, 1) := by decide +kernel
theorem dL_law_787 : decode cL_law 787 = .ok (.aload_n 1, 1) := by decide +kernel
theorem dL_law_788 : decode cL_law 788 = .ok (.aload_n 0, 1) := by decide +kernel
theorem dL_law_789 : decode cL_law 789 = .ok (.iload_n 3, 1) := by decide +kernel
theorem dL_law_790 : decode cL_law 790 = .ok (.iconst 1, 1) := by decide +kernel
theorem dL_law_791 : decode cL_law 791 = .ok (.iadd, 1) := by decide +kernel
theorem dL_law_792 : decode cL_law 792 = .ok (.iaload, 1) := by decide +kernel
theorem dL_law_793 : decode cL_law 793 = .ok (.invokevirtual 102, 3) := by decide +kernel
theorem dL_law_796 : decode cL_law 796 = .ok (.aload_n 2, 1) := by decide +kernel
theorem dL_law_797 : decode cL_law 797 = .ok (.aload_n 0, 1) := by decide +kernel
theorem dL_law_798 : decode cL_law 798 = .ok (.iload_n 3, 1) := by decide +kernel
theorem dL_law_799 : decode cL_law 799 = .ok (.iconst 1, 1) := by decide +kernel
theorem dL_law_800 : decode cL_law 800 = .ok (.iadd, 1) := by decide +kernel
theorem dL_law_801 : decode cL_law 801 = .ok (.iaload, 1) := by decide +kernel
theorem dL_law_802 : decode cL_law 802 = .ok (.invokevirtual 105, 3) := by decide +kernel
theorem dL_law_805 : decode cL_law 805 = .ok (.if_icmp .eq 617, 3) := by decide +kernel
theorem dL_law_808 : decode cL_law 808 = .ok (.iconst 0, 1) := by decide +kernel
theorem dL_law_809 : decode cL_law 809 = .ok (.ireturn, 1) := by decide +kernel
theorem dL_law_810 : decode cL_law 810 = .ok (.aload_n 1, 1) := by decide +kernel
theorem dL_law_811 : decode cL_law 811 = .ok (.aload_n 0, 1) := by decide +kernel
theorem dL_law_812 : decode cL_law 812 = .ok (.iload_n 3, 1) := by decide +kernel
theorem dL_law_813 : decode cL_law 813 = .ok (.iconst 1, 1) := by decide +kernel
theorem dL_law_814 : decode cL_law 814 = .ok (.iadd, 1) := by decide +kernel
theorem dL_law_815 : decode cL_law 815 = .ok (.iaload, 1) := by decide +kernel
theorem dL_law_816 : decode cL_law 816 = .ok (.invokevirtual 106, 3) := by decide +kernel
theorem dL_law_819 : decode cL_law 819 = .ok (.aload_n 2, 1) := by decide +kernel
theorem dL_law_820 : decode cL_law 820 = .ok (.aload_n 0, 1) := by decide +kernel
theorem dL_law_821 : decode cL_law 821 = .ok (.iload_n 3, 1) := by decide +kernel
theorem dL_law_822 : decode cL_law 822 = .ok (.iconst 1, 1) := by decide +kernel
theorem dL_law_823 : decode cL_law 823 = .ok (.iadd, 1) := by decide +kernel
theorem dL_law_824 : decode cL_law 824 = .ok (.iaload, 1) := by decide +kernel
theorem dL_law_825 : decode cL_law 825 = .ok (.invokevirtual 109, 3) := by decide +kernel
theorem dL_law_828 : decode cL_law 828 = .ok (.if_icmp .eq 594, 3) := by decide +kernel
theorem dL_law_831 : decode cL_law 831 = .ok (.iconst 0, 1) := by decide +kernel
theorem dL_law_832 : decode cL_law 832 = .ok (.ireturn, 1) := by decide +kernel
theorem dL_law_833 : decode cL_law 833 = .ok (.aload_n 1, 1) := by decide +kernel
theorem dL_law_834 : decode cL_law 834 = .ok (.invokevirtual 110, 3) := by decide +kernel
theorem dL_law_837 : decode cL_law 837 = .ok (.aload_n 2, 1) := by decide +kernel
theorem dL_law_838 : decode cL_law 838 = .ok (.invokevirtual 113, 3) := by decide +kernel
theorem dL_law_841 : decode cL_law 841 = .ok (.if_icmp .eq 581, 3) := by decide +kernel
theorem dL_law_844 : decode cL_law 844 = .ok (.iconst 0, 1) := by decide +kernel
theorem dL_law_845 : decode cL_law 845 = .ok (.ireturn, 1) := by decide +kernel
theorem dL_law_846 : decode cL_law 846 = .ok (.aload_n 1, 1) := by decide +kernel
theorem dL_law_847 : decode cL_law 847 = .ok (.aload_n 0, 1) := by decide +kernel
theorem dL_law_848 : decode cL_law 848 = .ok (.iload_n 3, 1) := by decide +kernel
theorem dL_law_849 : decode cL_law 849 = .ok (.iconst 1, 1) := by decide +kernel
theorem dL_law_850 : decode cL_law 850 = .ok (.iadd, 1) := by decide +kernel
theorem dL_law_851 : decode cL_law 851 = .ok (.iaload, 1) := by decide +kernel
theorem dL_law_852 : decode cL_law 852 = .ok (.aload_n 0, 1) := by decide +kernel
theorem dL_law_853 : decode cL_law 853 = .ok (.iload_n 3, 1) := by decide +kernel
theorem dL_law_854 : decode cL_law 854 = .ok (.iconst 2, 1) := by decide +kernel
theorem dL_law_855 : decode cL_law 855 = .ok (.iadd, 1) := by decide +kernel
theorem dL_law_856 : decode cL_law 856 = .ok (.iaload, 1) := by decide +kernel
theorem dL_law_857 : decode cL_law 857 = .ok (.aload_n 0, 1) := by decide +kernel
theorem dL_law_858 : decode cL_law 858 = .ok (.iload_n 3, 1) := by decide +kernel
theorem dL_law_859 : decode cL_law 859 = .ok (.iconst 3, 1) := by decide +kernel
theorem dL_law_860 : decode cL_law 860 = .ok (.iadd, 1) := by decide +kernel
theorem dL_law_861 : decode cL_law 861 = .ok (.iaload, 1) := by decide +kernel
theorem dL_law_862 : decode cL_law 862 = .ok (.aload_n 0, 1) := by decide +kernel
theorem dL_law_863 : decode cL_law 863 = .ok (.iload_n 3, 1) := by decide +kernel
theorem dL_law_864 : decode cL_law 864 = .ok (.iconst 4, 1) := by decide +kernel
theorem dL_law_865 : decode cL_law 865 = .ok (.iadd, 1) := by decide +kernel
theorem dL_law_866 : decode cL_law 866 = .ok (.iaload, 1) := by decide +kernel
theorem dL_law_867 : decode cL_law 867 = .ok (.invokevirtual 114, 3) := by decide +kernel
theorem dL_law_870 : decode cL_law 870 = .ok (.aload_n 2, 1) := by decide +kernel
theorem dL_law_871 : decode cL_law 871 = .ok (.aload_n 0, 1) := by decide +kernel
theorem dL_law_872 : decode cL_law 872 = .ok (.iload_n 3, 1) := by decide +kernel
theorem dL_law_873 : decode cL_law 873 = .ok (.iconst 1, 1) := by decide +kernel
theorem dL_law_874 : decode cL_law 874 = .ok (.iadd, 1) := by decide +kernel
theorem dL_law_875 : decode cL_law 875 = .ok (.iaload, 1) := by decide +kernel
theorem dL_law_876 : decode cL_law 876 = .ok (.aload_n 0, 1) := by decide +kernel
theorem dL_law_877 : decode cL_law 877 = .ok (.iload_n 3, 1) := by decide +kernel
theorem dL_law_878 : decode cL_law 878 = .ok (.iconst 2, 1) := by decide +kernel
theorem dL_law_879 : decode cL_law 879 = .ok (.iadd, 1) := by decide +kernel
theorem dL_law_880 : decode cL_law 880 = .ok (.iaload, 1) := by decide +kernel
theorem dL_law_881 : decode cL_law 881 = .ok (.aload_n 0, 1) := by decide +kernel
theorem dL_law_882 : decode cL_law 882 = .ok (.iload_n 3, 1) := by decide +kernel
theorem dL_law_883 : decode cL_law 883 = .ok (.iconst 3, 1) := by decide +kernel
theorem dL_law_884 : decode cL_law 884 = .ok (.iadd, 1) := by decide +kernel
theorem dL_law_885 : decode cL_law 885 = .ok (.iaload, 1) := by decide +kernel
theorem dL_law_886 : decode cL_law 886 = .ok (.aload_n 0, 1) := by decide +kernel
theorem dL_law_887 : decode cL_law 887 = .ok (.iload_n 3, 1) := by decide +kernel
theorem dL_law_888 : decode cL_law 888 = .ok (.iconst 4, 1) := by decide +kernel
theorem dL_law_889 : decode cL_law 889 = .ok (.iadd, 1) := by decide +kernel
theorem dL_law_890 : decode cL_law 890 = .ok (.iaload, 1) := by decide +kernel
theorem dL_law_891 : decode cL_law 891 = .ok (.invokevirtual 118, 3) := by decide +kernel
theorem dL_law_894 : decode cL_law 894 = .ok (.if_icmp .eq 528, 3) := by decide +kernel
theorem dL_law_897 : decode cL_law 897 = .ok (.iconst 0, 1) := by decide +kernel
theorem dL_law_898 : decode cL_law 898 = .ok (.ireturn, 1) := by decide +kernel
theorem dL_law_899 : decode cL_law 899 = .ok (.aload_n 1, 1) := by decide +kernel
theorem dL_law_900 : decode cL_law 900 = .ok (.aload_n 0, 1) := by decide +kernel
theorem dL_law_901 : decode cL_law 901 = .ok (.iload_n 3, 1) := by decide +kernel
theorem dL_law_902 : decode cL_law 902 = .ok (.iconst 1, 1) := by decide +kernel
theorem dL_law_903 : decode cL_law 903 = .ok (.iadd, 1) := by decide +kernel
theorem dL_law_904 : decode cL_law 904 = .ok (.iaload, 1) := by decide +kernel
theorem dL_law_905 : decode cL_law 905 = .ok (.aload_n 0, 1) := by decide +kernel
theorem dL_law_906 : decode cL_law 906 = .ok (.iload_n 3, 1) := by decide +kernel
theorem dL_law_907 : decode cL_law 907 = .ok (.iconst 2, 1) := by decide +kernel
theorem dL_law_908 : decode cL_law 908 = .ok (.iadd, 1) := by decide +kernel
theorem dL_law_909 : decode cL_law 909 = .ok (.iaload, 1) := by decide +kernel
theorem dL_law_910 : decode cL_law 910 = .ok (.invokevirtual 119, 3) := by decide +kernel
theorem dL_law_913 : decode cL_law 913 = .ok (.aload_n 2, 1) := by decide +kernel
theorem dL_law_914 : decode cL_law 914 = .ok (.aload_n 0, 1) := by decide +kernel
theorem dL_law_915 : decode cL_law 915 = .ok (.iload_n 3, 1) := by decide +kernel
theorem dL_law_916 : decode cL_law 916 = .ok (.iconst 1, 1) := by decide +kernel
theorem dL_law_917 : decode cL_law 917 = .ok (.iadd, 1) := by decide +kernel
theorem dL_law_918 : decode cL_law 918 = .ok (.iaload, 1) := by decide +kernel
theorem dL_law_919 : decode cL_law 919 = .ok (.aload_n 0, 1) := by decide +kernel
theorem dL_law_920 : decode cL_law 920 = .ok (.iload_n 3, 1) := by decide +kernel
theorem dL_law_921 : decode cL_law 921 = .ok (.iconst 2, 1) := by decide +kernel
theorem dL_law_922 : decode cL_law 922 = .ok (.iadd, 1) := by decide +kernel
theorem dL_law_923 : decode cL_law 923 = .ok (.iaload, 1) := by decide +kernel
theorem dL_law_924 : decode cL_law 924 = .ok (.invokevirtual 122, 3) := by decide +kernel
theorem dL_law_927 : decode cL_law 927 = .ok (.if_icmp .eq 495, 3) := by decide +kernel
theorem dL_law_930 : decode cL_law 930 = .ok (.iconst 0, 1) := by decide +kernel
theorem dL_law_931 : decode cL_law 931 = .ok (.ireturn, 1) := by decide +kernel
theorem dL_law_932 : decode cL_law 932 = .ok (.aload_n 1, 1) := by decide +kernel
theorem dL_law_933 : decode cL_law 933 = .ok (.aload_n 0, 1) := by decide +kernel
theorem dL_law_934 : decode cL_law 934 = .ok (.iload_n 3, 1) := by decide +kernel
theorem dL_law_935 : decode cL_law 935 = .ok (.iconst 1, 1) := by decide +kernel
theorem dL_law_936 : decode cL_law 936 = .ok (.iadd, 1) := by decide +kernel
theorem dL_law_937 : decode cL_law 937 = .ok (.iaload, 1) := by decide +kernel
theorem dL_law_938 : decode cL_law 938 = .ok (.aload_n 0, 1) := by decide +kernel
theorem dL_law_939 : decode cL_law 939 = .ok (.iload_n 3, 1) := by decide +kernel
theorem dL_law_940 : decode cL_law 940 = .ok (.iconst 2, 1) := by decide +kernel
theorem dL_law_941 : decode cL_law 941 = .ok (.iadd, 1) := by decide +kernel
theorem dL_law_942 : decode cL_law 942 = .ok (.iaload, 1) := by decide +kernel
theorem dL_law_943 : decode cL_law 943 = .ok (.aload_n 0, 1) := by decide +kernel
theorem dL_law_944 : decode cL_law 944 = .ok (.iload_n 3, 1) := by decide +kernel
theorem dL_law_945 : decode cL_law 945 = .ok (.iconst 3, 1) := by decide +kernel
theorem dL_law_946 : decode cL_law 946 = .ok (.iadd, 1) := by decide +kernel
theorem dL_law_947 : decode cL_law 947 = .ok (.iaload, 1) := by decide +kernel
theorem dL_law_948 : decode cL_law 948 = .ok (.aload_n 0, 1) := by decide +kernel
theorem dL_law_949 : decode cL_law 949 = .ok (.iload_n 3, 1) := by decide +kernel
theorem dL_law_950 : decode cL_law 950 = .ok (.iconst 4, 1) := by decide +kernel
theorem dL_law_951 : decode cL_law 951 = .ok (.iadd, 1) := by decide +kernel
theorem dL_law_952 : decode cL_law 952 = .ok (.iaload, 1) := by decide +kernel
theorem dL_law_953 : decode cL_law 953 = .ok (.aload_n 0, 1) := by decide +kernel
theorem dL_law_954 : decode cL_law 954 = .ok (.iload_n 3, 1) := by decide +kernel
theorem dL_law_955 : decode cL_law 955 = .ok (.iconst 5, 1) := by decide +kernel
theorem dL_law_956 : decode cL_law 956 = .ok (.iadd, 1) := by decide +kernel
theorem dL_law_957 : decode cL_law 957 = .ok (.iaload, 1) := by decide +kernel
theorem dL_law_958 : decode cL_law 958 = .ok (.invokevirtual 123, 3) := by decide +kernel
theorem dL_law_961 : decode cL_law 961 = .ok (.aload_n 2, 1) := by decide +kernel
theorem dL_law_962 : decode cL_law 962 = .ok (.aload_n 0, 1) := by decide +kernel
theorem dL_law_963 : decode cL_law 963 = .ok (.iload_n 3, 1) := by decide +kernel
theorem dL_law_964 : decode cL_law 964 = .ok (.iconst 1, 1) := by decide +kernel
theorem dL_law_965 : decode cL_law 965 = .ok (.iadd, 1) := by decide +kernel
theorem dL_law_966 : decode cL_law 966 = .ok (.iaload, 1) := by decide +kernel
theorem dL_law_967 : decode cL_law 967 = .ok (.aload_n 0, 1) := by decide +kernel
theorem dL_law_968 : decode cL_law 968 = .ok (.iload_n 3, 1) := by decide +kernel
theorem dL_law_969 : decode cL_law 969 = .ok (.iconst 2, 1) := by decide +kernel
theorem dL_law_970 : decode cL_law 970 = .ok (.iadd, 1) := by decide +kernel
theorem dL_law_971 : decode cL_law 971 = .ok (.iaload, 1) := by decide +kernel
theorem dL_law_972 : decode cL_law 972 = .ok (.aload_n 0, 1) := by decide +kernel
theorem dL_law_973 : decode cL_law 973 = .ok (.iload_n 3, 1) := by decide +kernel
theorem dL_law_974 : decode cL_law 974 = .ok (.iconst 3, 1) := by decide +kernel
theorem dL_law_975 : decode cL_law 975 = .ok (.iadd, 1) := by decide +kernel
theorem dL_law_976 : decode cL_law 976 = .ok (.iaload, 1) := by decide +kernel
theorem dL_law_977 : decode cL_law 977 = .ok (.aload_n 0, 1) := by decide +kernel
theorem dL_law_978 : decode cL_law 978 = .ok (.iload_n 3, 1) := by decide +kernel
theorem dL_law_979 : decode cL_law 979 = .ok (.iconst 4, 1) := by decide +kernel
theorem dL_law_980 : decode cL_law 980 = .ok (.iadd, 1) := by decide +kernel
theorem dL_law_981 : decode cL_law 981 = .ok (.iaload, 1) := by decide +kernel
theorem dL_law_982 : decode cL_law 982 = .ok (.aload_n 0, 1) := by decide +kernel
theorem dL_law_983 : decode cL_law 983 = .ok (.iload_n 3, 1) := by decide +kernel
theorem dL_law_984 : decode cL_law 984 = .ok (.iconst 5, 1) := by decide +kernel
theorem dL_law_985 : decode cL_law 985 = .ok (.iadd, 1) := by decide +kernel
theorem dL_law_986 : decode cL_law 986 = .ok (.iaload, 1) := by decide +kernel
theorem dL_law_987 : decode cL_law 987 = .ok (.invokevirtual 126, 3) := by decide +kernel
theorem dL_law_990 : decode cL_law 990 = .ok (.if_icmp .eq 432, 3) := by decide +kernel
theorem dL_law_993 : decode cL_law 993 = .ok (.iconst 0, 1) := by decide +kernel
theorem dL_law_994 : decode cL_law 994 = .ok (.ireturn, 1) := by decide +kernel
theorem dL_law_995 : decode cL_law 995 = .ok (.aload_n 1, 1) := by decide +kernel
theorem dL_law_996 : decode cL_law 996 = .ok (.aload_n 0, 1) := by decide +kernel
theorem dL_law_997 : decode cL_law 997 = .ok (.iload_n 3, 1) := by decide +kernel
theorem dL_law_998 : decode cL_law 998 = .ok (.iconst 1, 1) := by decide +kernel
theorem dL_law_999 : decode cL_law 999 = .ok (.iadd, 1) := by decide +kernel
theorem dL_law_1000 : decode cL_law 1000 = .ok (.iaload, 1) := by decide +kernel
theorem dL_law_1001 : decode cL_law 1001 = .ok (.aload_n 0, 1) := by decide +kernel
theorem dL_law_1002 : decode cL_law 1002 = .ok (.iload_n 3, 1) := by decide +kernel
theorem dL_law_1003 : decode cL_law 1003 = .ok (.iconst 2, 1) := by decide +kernel
theorem dL_law_1004 : decode cL_law 1004 = .ok (.iadd, 1) := by decide +kernel
theorem dL_law_1005 : decode cL_law 1005 = .ok (.iaload, 1) := by decide +kernel
theorem dL_law_1006 : decode cL_law 1006 = .ok (.aload_n 0, 1) := by decide +kernel
theorem dL_law_1007 : decode cL_law 1007 = .ok (.iload_n 3, 1) := by decide +kernel
theorem dL_law_1008 : decode cL_law 1008 = .ok (.iconst 3, 1) := by decide +kernel
theorem dL_law_1009 : decode cL_law 1009 = .ok (.iadd, 1) := by decide +kernel
theorem dL_law_1010 : decode cL_law 1010 = .ok (.iaload, 1) := by decide +kernel
theorem dL_law_1011 : decode cL_law 1011 = .ok (.aload_n 0, 1) := by decide +kernel
theorem dL_law_1012 : decode cL_law 1012 = .ok (.iload_n 3, 1) := by decide +kernel
theorem dL_law_1013 : decode cL_law 1013 = .ok (.iconst 4, 1) := by decide +kernel
theorem dL_law_1014 : decode cL_law 1014 = .ok (.iadd, 1) := by decide +kernel
theorem dL_law_1015 : decode cL_law 1015 = .ok (.iaload, 1) := by decide +kernel
theorem dL_law_1016 : decode cL_law 1016 = .ok (.aload_n 0, 1) := by decide +kernel
theorem dL_law_1017 : decode cL_law 1017 = .ok (.iload_n 3, 1) := by decide +kernel
theorem dL_law_1018 : decode cL_law 1018 = .ok (.iconst 5, 1) := by decide +kernel
theorem dL_law_1019 : decode cL_law 1019 = .ok (.iadd, 1) := by decide +kernel
theorem dL_law_1020 : decode cL_law 1020 = .ok (.iaload, 1) := by decide +kernel
theorem dL_law_1021 : decode cL_law 1021 = .ok (.invokevirtual 127, 3) := by decide +kernel
theorem dL_law_1024 : decode cL_law 1024 = .ok (.aload_n 2, 1) := by decide +kernel
theorem dL_law_1025 : decode cL_law 1025 = .ok (.aload_n 0, 1) := by decide +kernel
theorem dL_law_1026 : decode cL_law 1026 = .ok (.iload_n 3, 1) := by decide +kernel
theorem dL_law_1027 : decode cL_law 1027 = .ok (.iconst 1, 1) := by decide +kernel
theorem dL_law_1028 : decode cL_law 1028 = .ok (.iadd, 1) := by decide +kernel
theorem dL_law_1029 : decode cL_law 1029 = .ok (.iaload, 1) := by decide +kernel
theorem dL_law_1030 : decode cL_law 1030 = .ok (.aload_n 0, 1) := by decide +kernel
theorem dL_law_1031 : decode cL_law 1031 = .ok (.iload_n 3, 1) := by decide +kernel
theorem dL_law_1032 : decode cL_law 1032 = .ok (.iconst 2, 1) := by decide +kernel
theorem dL_law_1033 : decode cL_law 1033 = .ok (.iadd, 1) := by decide +kernel
theorem dL_law_1034 : decode cL_law 1034 = .ok (.iaload, 1) := by decide +kernel
theorem dL_law_1035 : decode cL_law 1035 = .ok (.aload_n 0, 1) := by decide +kernel
theorem dL_law_1036 : decode cL_law 1036 = .ok (.iload_n 3, 1) := by decide +kernel
theorem dL_law_1037 : decode cL_law 1037 = .ok (.iconst 3, 1) := by decide +kernel
theorem dL_law_1038 : decode cL_law 1038 = .ok (.iadd, 1) := by decide +kernel
theorem dL_law_1039 : decode cL_law 1039 = .ok (.iaload, 1) := by decide +kernel
theorem dL_law_1040 : decode cL_law 1040 = .ok (.aload_n 0, 1) := by decide +kernel
theorem dL_law_1041 : decode cL_law 1041 = .ok (.iload_n 3, 1) := by decide +kernel
theorem dL_law_1042 : decode cL_law 1042 = .ok (.iconst 4, 1) := by decide +kernel
theorem dL_law_1043 : decode cL_law 1043 = .ok (.iadd, 1) := by decide +kernel
theorem dL_law_1044 : decode cL_law 1044 = .ok (.iaload, 1) := by decide +kernel
theorem dL_law_1045 : decode cL_law 1045 = .ok (.aload_n 0, 1) := by decide +kernel
theorem dL_law_1046 : decode cL_law 1046 = .ok (.iload_n 3, 1) := by decide +kernel
theorem dL_law_1047 : decode cL_law 1047 = .ok (.iconst 5, 1) := by decide +kernel
theorem dL_law_1048 : decode cL_law 1048 = .ok (.iadd, 1) := by decide +kernel
theorem dL_law_1049 : decode cL_law 1049 = .ok (.iaload, 1) := by decide +kernel
theorem dL_law_1050 : decode cL_law 1050 = .ok (.invokevirtual 130, 3) := by decide +kernel
theorem dL_law_1053 : decode cL_law 1053 = .ok (.if_icmp .eq 369, 3) := by decide +kernel
theorem dL_law_1056 : decode cL_law 1056 = .ok (.iconst 0, 1) := by decide +kernel
theorem dL_law_1057 : decode cL_law 1057 = .ok (.ireturn, 1) := by decide +kernel
theorem dL_law_1058 : decode cL_law 1058 = .ok (.aload_n 1, 1) := by decide +kernel
theorem dL_law_1059 : decode cL_law 1059 = .ok (.aload_n 0, 1) := by decide +kernel
theorem dL_law_1060 : decode cL_law 1060 = .ok (.iload_n 3, 1) := by decide +kernel
theorem dL_law_1061 : decode cL_law 1061 = .ok (.iconst 1, 1) := by decide +kernel
theorem dL_law_1062 : decode cL_law 1062 = .ok (.iadd, 1) := by decide +kernel
theorem dL_law_1063 : decode cL_law 1063 = .ok (.iaload, 1) := by decide +kernel
theorem dL_law_1064 : decode cL_law 1064 = .ok (.aload_n 0, 1) := by decide +kernel
theorem dL_law_1065 : decode cL_law 1065 = .ok (.iload_n 3, 1) := by decide +kernel
theorem dL_law_1066 : decode cL_law 1066 = .ok (.iconst 2, 1) := by decide +kernel
theorem dL_law_1067 : decode cL_law 1067 = .ok (.iadd, 1) := by decide +kernel
theorem dL_law_1068 : decode cL_law 1068 = .ok (.iaload, 1) := by decide +kernel
theorem dL_law_1069 : decode cL_law 1069 = .ok (.aload_n 0, 1) := by decide +kernel
theorem dL_law_1070 : decode cL_law 1070 = .ok (.iload_n 3, 1) := by decide +kernel
theorem dL_law_1071 : decode cL_law 1071 = .ok (.iconst 3, 1) := by decide +kernel
theorem dL_law_1072 : decode cL_law 1072 = .ok (.iadd, 1) := by decide +kernel
theorem dL_law_1073 : decode cL_law 1073 = .ok (.iaload, 1) := by decide +kernel
theorem dL_law_1074 : decode cL_law 1074 = .ok (.aload_n 0, 1) := by decide +kernel
theorem dL_law_1075 : decode cL_law 1075 = .ok (.iload_n 3, 1) := by decide +kernel
theorem dL_law_1076 : decode cL_law 1076 = .ok (.iconst 4, 1) := by decide +kernel
theorem dL_law_1077 : decode cL_law 1077 = .ok (.iadd, 1) := by decide +kernel
theorem dL_law_1078 : decode cL_law 1078 = .ok (.iaload, 1) := by decide +kernel
theorem dL_law_1079 : decode cL_law 1079 = .ok (.aload_n 0, 1) := by decide +kernel
theorem dL_law_1080 : decode cL_law 1080 = .ok (.iload_n 3, 1) := by decide +kernel
theorem dL_law_1081 : decode cL_law 1081 = .ok (.iconst 5, 1) := by decide +kernel
theorem dL_law_1082 : decode cL_law 1082 = .ok (.iadd, 1) := by decide +kernel
theorem dL_law_1083 : decode cL_law 1083 = .ok (.iaload, 1) := by decide +kernel
theorem dL_law_1084 : decode cL_law 1084 = .ok (.invokevirtual 131, 3) := by decide +kernel
theorem dL_law_1087 : decode cL_law 1087 = .ok (.aload_n 2, 1) := by decide +kernel
theorem dL_law_1088 : decode cL_law 1088 = .ok (.aload_n 0, 1) := by decide +kernel
theorem dL_law_1089 : decode cL_law 1089 = .ok (.iload_n 3, 1) := by decide +kernel
theorem dL_law_1090 : decode cL_law 1090 = .ok (.iconst 1, 1) := by decide +kernel
theorem dL_law_1091 : decode cL_law 1091 = .ok (.iadd, 1) := by decide +kernel
theorem dL_law_1092 : decode cL_law 1092 = .ok (.iaload, 1) := by decide +kernel
theorem dL_law_1093 : decode cL_law 1093 = .ok (.aload_n 0, 1) := by decide +kernel
theorem dL_law_1094 : decode cL_law 1094 = .ok (.iload_n 3, 1) := by decide +kernel
theorem dL_law_1095 : decode cL_law 1095 = .ok (.iconst 2, 1) := by decide +kernel
theorem dL_law_1096 : decode cL_law 1096 = .ok (.iadd, 1) := by decide +kernel
theorem dL_law_1097 : decode cL_law 1097 = .ok (.iaload, 1) := by decide +kernel
theorem dL_law_1098 : decode cL_law 1098 = .ok (.aload_n 0, 1) := by decide +kernel
theorem dL_law_1099 : decode cL_law 1099 = .ok (.iload_n 3, 1) := by decide +kernel
theorem dL_law_1100 : decode cL_law 1100 = .ok (.iconst 3, 1) := by decide +kernel
theorem dL_law_1101 : decode cL_law 1101 = .ok (.iadd, 1) := by decide +kernel
theorem dL_law_1102 : decode cL_law 1102 = .ok (.iaload, 1) := by decide +kernel
theorem dL_law_1103 : decode cL_law 1103 = .ok (.aload_n 0, 1) := by decide +kernel
theorem dL_law_1104 : decode cL_law 1104 = .ok (.iload_n 3, 1) := by decide +kernel
theorem dL_law_1105 : decode cL_law 1105 = .ok (.iconst 4, 1) := by decide +kernel
theorem dL_law_1106 : decode cL_law 1106 = .ok (.iadd, 1) := by decide +kernel
theorem dL_law_1107 : decode cL_law 1107 = .ok (.iaload, 1) := by decide +kernel
theorem dL_law_1108 : decode cL_law 1108 = .ok (.aload_n 0, 1) := by decide +kernel
theorem dL_law_1109 : decode cL_law 1109 = .ok (.iload_n 3, 1) := by decide +kernel
theorem dL_law_1110 : decode cL_law 1110 = .ok (.iconst 5, 1) := by decide +kernel
theorem dL_law_1111 : decode cL_law 1111 = .ok (.iadd, 1) := by decide +kernel
theorem dL_law_1112 : decode cL_law 1112 = .ok (.iaload, 1) := by decide +kernel
theorem dL_law_1113 : decode cL_law 1113 = .ok (.invokevirtual 134, 3) := by decide +kernel
theorem dL_law_1116 : decode cL_law 1116 = .ok (.if_icmp .eq 306, 3) := by decide +kernel
theorem dL_law_1119 : decode cL_law 1119 = .ok (.iconst 0, 1) := by decide +kernel
theorem dL_law_1120 : decode cL_law 1120 = .ok (.ireturn, 1) := by decide +kernel
theorem dL_law_1121 : decode cL_law 1121 = .ok (.aload_n 1, 1) := by decide +kernel
theorem dL_law_1122 : decode cL_law 1122 = .ok (.aload_n 0, 1) := by decide +kernel
theorem dL_law_1123 : decode cL_law 1123 = .ok (.iload_n 3, 1) := by decide +kernel
theorem dL_law_1124 : decode cL_law 1124 = .ok (.iconst 1, 1) := by decide +kernel
theorem dL_law_1125 : decode cL_law 1125 = .ok (.iadd, 1) := by decide +kernel
theorem dL_law_1126 : decode cL_law 1126 = .ok (.iaload, 1) := by decide +kernel
theorem dL_law_1127 : decode cL_law 1127 = .ok (.aload_n 0, 1) := by decide +kernel
theorem dL_law_1128 : decode cL_law 1128 = .ok (.iload_n 3, 1) := by decide +kernel
theorem dL_law_1129 : decode cL_law 1129 = .ok (.iconst 2, 1) := by decide +kernel
theorem dL_law_1130 : decode cL_law 1130 = .ok (.iadd, 1) := by decide +kernel
theorem dL_law_1131 : decode cL_law 1131 = .ok (.iaload, 1) := by decide +kernel
theorem dL_law_1132 : decode cL_law 1132 = .ok (.aload_n 0, 1) := by decide +kernel
theorem dL_law_1133 : decode cL_law 1133 = .ok (.iload_n 3, 1) := by decide +kernel
theorem dL_law_1134 : decode cL_law 1134 = .ok (.iconst 3, 1) := by decide +kernel
theorem dL_law_1135 : decode cL_law 1135 = .ok (.iadd, 1) := by decide +kernel
theorem dL_law_1136 : decode cL_law 1136 = .ok (.iaload, 1) := by decide +kernel
theorem dL_law_1137 : decode cL_law 1137 = .ok (.aload_n 0, 1) := by decide +kernel
theorem dL_law_1138 : decode cL_law 1138 = .ok (.iload_n 3, 1) := by decide +kernel
theorem dL_law_1139 : decode cL_law 1139 = .ok (.iconst 4, 1) := by decide +kernel
theorem dL_law_1140 : decode cL_law 1140 = .ok (.iadd, 1) := by decide +kernel
theorem dL_law_1141 : decode cL_law 1141 = .ok (.iaload, 1) := by decide +kernel
theorem dL_law_1142 : decode cL_law 1142 = .ok (.aload_n 0, 1) := by decide +kernel
theorem dL_law_1143 : decode cL_law 1143 = .ok (.iload_n 3, 1) := by decide +kernel
theorem dL_law_1144 : decode cL_law 1144 = .ok (.iconst 5, 1) := by decide +kernel
theorem dL_law_1145 : decode cL_law 1145 = .ok (.iadd, 1) := by decide +kernel
theorem dL_law_1146 : decode cL_law 1146 = .ok (.iaload, 1) := by decide +kernel
theorem dL_law_1147 : decode cL_law 1147 = .ok (.invokevirtual 135, 3) := by decide +kernel
theorem dL_law_1150 : decode cL_law 1150 = .ok (.aload_n 2, 1) := by decide +kernel
theorem dL_law_1151 : decode cL_law 1151 = .ok (.aload_n 0, 1) := by decide +kernel
theorem dL_law_1152 : decode cL_law 1152 = .ok (.iload_n 3, 1) := by decide +kernel
theorem dL_law_1153 : decode cL_law 1153 = .ok (.iconst 1, 1) := by decide +kernel
theorem dL_law_1154 : decode cL_law 1154 = .ok (.iadd, 1) := by decide +kernel
theorem dL_law_1155 : decode cL_law 1155 = .ok (.iaload, 1) := by decide +kernel
theorem dL_law_1156 : decode cL_law 1156 = .ok (.aload_n 0, 1) := by decide +kernel
theorem dL_law_1157 : decode cL_law 1157 = .ok (.iload_n 3, 1) := by decide +kernel
theorem dL_law_1158 : decode cL_law 1158 = .ok (.iconst 2, 1) := by decide +kernel
theorem dL_law_1159 : decode cL_law 1159 = .ok (.iadd, 1) := by decide +kernel
theorem dL_law_1160 : decode cL_law 1160 = .ok (.iaload, 1) := by decide +kernel
theorem dL_law_1161 : decode cL_law 1161 = .ok (.aload_n 0, 1) := by decide +kernel
theorem dL_law_1162 : decode cL_law 1162 = .ok (.iload_n 3, 1) := by decide +kernel
theorem dL_law_1163 : decode cL_law 1163 = .ok (.iconst 3, 1) := by decide +kernel
theorem dL_law_1164 : decode cL_law 1164 = .ok (.iadd, 1) := by decide +kernel
theorem dL_law_1165 : decode cL_law 1165 = .ok (.iaload, 1) := by decide +kernel
theorem dL_law_1166 : decode cL_law 1166 = .ok (.aload_n 0, 1) := by decide +kernel
theorem dL_law_1167 : decode cL_law 1167 = .ok (.iload_n 3, 1) := by decide +kernel
theorem dL_law_1168 : decode cL_law 1168 = .ok (.iconst 4, 1) := by decide +kernel
theorem dL_law_1169 : decode cL_law 1169 = .ok (.iadd, 1) := by decide +kernel
theorem dL_law_1170 : decode cL_law 1170 = .ok (.iaload, 1) := by decide +kernel
theorem dL_law_1171 : decode cL_law 1171 = .ok (.aload_n 0, 1) := by decide +kernel
theorem dL_law_1172 : decode cL_law 1172 = .ok (.iload_n 3, 1) := by decide +kernel
theorem dL_law_1173 : decode cL_law 1173 = .ok (.iconst 5, 1) := by decide +kernel
theorem dL_law_1174 : decode cL_law 1174 = .ok (.iadd, 1) := by decide +kernel
theorem dL_law_1175 : decode cL_law 1175 = .ok (.iaload, 1) := by decide +kernel
theorem dL_law_1176 : decode cL_law 1176 = .ok (.invokevirtual 139, 3) := by decide +kernel
theorem dL_law_1179 : decode cL_law 1179 = .ok (.lcmp, 1) := by decide +kernel
theorem dL_law_1180 : decode cL_law 1180 = .ok (.ifCond .eq 242, 3) := by decide +kernel
theorem dL_law_1183 : decode cL_law 1183 = .ok (.iconst 0, 1) := by decide +kernel
theorem dL_law_1184 : decode cL_law 1184 = .ok (.ireturn, 1) := by decide +kernel
theorem dL_law_1185 : decode cL_law 1185 = .ok (.aload_n 1, 1) := by decide +kernel
theorem dL_law_1186 : decode cL_law 1186 = .ok (.aload_n 0, 1) := by decide +kernel
theorem dL_law_1187 : decode cL_law 1187 = .ok (.iload_n 3, 1) := by decide +kernel
theorem dL_law_1188 : decode cL_law 1188 = .ok (.iconst 1, 1) := by decide +kernel
theorem dL_law_1189 : decode cL_law 1189 = .ok (.iadd, 1) := by decide +kernel
theorem dL_law_1190 : decode cL_law 1190 = .ok (.iaload, 1) := by decide +kernel
theorem dL_law_1191 : decode cL_law 1191 = .ok (.aload_n 0, 1) := by decide +kernel
theorem dL_law_1192 : decode cL_law 1192 = .ok (.iload_n 3, 1) := by decide +kernel
theorem dL_law_1193 : decode cL_law 1193 = .ok (.iconst 2, 1) := by decide +kernel
theorem dL_law_1194 : decode cL_law 1194 = .ok (.iadd, 1) := by decide +kernel
theorem dL_law_1195 : decode cL_law 1195 = .ok (.iaload, 1) := by decide +kernel
theorem dL_law_1196 : decode cL_law 1196 = .ok (.aload_n 0, 1) := by decide +kernel
theorem dL_law_1197 : decode cL_law 1197 = .ok (.iload_n 3, 1) := by decide +kernel
theorem dL_law_1198 : decode cL_law 1198 = .ok (.iconst 3, 1) := by decide +kernel
theorem dL_law_1199 : decode cL_law 1199 = .ok (.iadd, 1) := by decide +kernel
theorem dL_law_1200 : decode cL_law 1200 = .ok (.iaload, 1) := by decide +kernel
theorem dL_law_1201 : decode cL_law 1201 = .ok (.invokevirtual 140, 3) := by decide +kernel
theorem dL_law_1204 : decode cL_law 1204 = .ok (.aload_n 2, 1) := by decide +kernel
theorem dL_law_1205 : decode cL_law 1205 = .ok (.aload_n 0, 1) := by decide +kernel
theorem dL_law_1206 : decode cL_law 1206 = .ok (.iload_n 3, 1) := by decide +kernel
theorem dL_law_1207 : decode cL_law 1207 = .ok (.iconst 1, 1) := by decide +kernel
theorem dL_law_1208 : decode cL_law 1208 = .ok (.iadd, 1) := by decide +kernel
theorem dL_law_1209 : decode cL_law 1209 = .ok (.iaload, 1) := by decide +kernel
theorem dL_law_1210 : decode cL_law 1210 = .ok (.aload_n 0, 1) := by decide +kernel
theorem dL_law_1211 : decode cL_law 1211 = .ok (.iload_n 3, 1) := by decide +kernel
theorem dL_law_1212 : decode cL_law 1212 = .ok (.iconst 2, 1) := by decide +kernel
theorem dL_law_1213 : decode cL_law 1213 = .ok (.iadd, 1) := by decide +kernel
theorem dL_law_1214 : decode cL_law 1214 = .ok (.iaload, 1) := by decide +kernel
theorem dL_law_1215 : decode cL_law 1215 = .ok (.aload_n 0, 1) := by decide +kernel
theorem dL_law_1216 : decode cL_law 1216 = .ok (.iload_n 3, 1) := by decide +kernel
theorem dL_law_1217 : decode cL_law 1217 = .ok (.iconst 3, 1) := by decide +kernel
theorem dL_law_1218 : decode cL_law 1218 = .ok (.iadd, 1) := by decide +kernel
theorem dL_law_1219 : decode cL_law 1219 = .ok (.iaload, 1) := by decide +kernel
theorem dL_law_1220 : decode cL_law 1220 = .ok (.invokevirtual 143, 3) := by decide +kernel
theorem dL_law_1223 : decode cL_law 1223 = .ok (.if_icmp .eq 199, 3) := by decide +kernel
theorem dL_law_1226 : decode cL_law 1226 = .ok (.iconst 0, 1) := by decide +kernel
theorem dL_law_1227 : decode cL_law 1227 = .ok (.ireturn, 1) := by decide +kernel
theorem dL_law_1228 : decode cL_law 1228 = .ok (.aload_n 1, 1) := by decide +kernel
theorem dL_law_1229 : decode cL_law 1229 = .ok (.aload_n 0, 1) := by decide +kernel
theorem dL_law_1230 : decode cL_law 1230 = .ok (.iload_n 3, 1) := by decide +kernel
theorem dL_law_1231 : decode cL_law 1231 = .ok (.iconst 1, 1) := by decide +kernel
theorem dL_law_1232 : decode cL_law 1232 = .ok (.iadd, 1) := by decide +kernel
theorem dL_law_1233 : decode cL_law 1233 = .ok (.iaload, 1) := by decide +kernel
theorem dL_law_1234 : decode cL_law 1234 = .ok (.invokevirtual 144, 3) := by decide +kernel
theorem dL_law_1237 : decode cL_law 1237 = .ok (.aload_n 2, 1) := by decide +kernel
theorem dL_law_1238 : decode cL_law 1238 = .ok (.aload_n 0, 1) := by decide +kernel
theorem dL_law_1239 : decode cL_law 1239 = .ok (.iload_n 3, 1) := by decide +kernel
theorem dL_law_1240 : decode cL_law 1240 = .ok (.iconst 1, 1) := by decide +kernel
theorem dL_law_1241 : decode cL_law 1241 = .ok (.iadd, 1) := by decide +kernel
theorem dL_law_1242 : decode cL_law 1242 = .ok (.iaload, 1) := by decide +kernel
theorem dL_law_1243 : decode cL_law 1243 = .ok (.invokevirtual 147, 3) := by decide +kernel
theorem dL_law_1246 : decode cL_law 1246 = .ok (.if_icmp .eq 176, 3) := by decide +kernel
theorem dL_law_1249 : decode cL_law 1249 = .ok (.iconst 0, 1) := by decide +kernel
theorem dL_law_1250 : decode cL_law 1250 = .ok (.ireturn, 1) := by decide +kernel
theorem dL_law_1251 : decode cL_law 1251 = .ok (.aload_n 1, 1) := by decide +kernel
theorem dL_law_1252 : decode cL_law 1252 = .ok (.aload_n 0, 1) := by decide +kernel
theorem dL_law_1253 : decode cL_law 1253 = .ok (.iload_n 3, 1) := by decide +kernel
theorem dL_law_1254 : decode cL_law 1254 = .ok (.iconst 1, 1) := by decide +kernel
theorem dL_law_1255 : decode cL_law 1255 = .ok (.iadd, 1) := by decide +kernel
theorem dL_law_1256 : decode cL_law 1256 = .ok (.iaload, 1) := by decide +kernel
theorem dL_law_1257 : decode cL_law 1257 = .ok (.invokevirtual 148, 3) := by decide +kernel
theorem dL_law_1260 : decode cL_law 1260 = .ok (.aload_n 2, 1) := by decide +kernel
theorem dL_law_1261 : decode cL_law 1261 = .ok (.aload_n 0, 1) := by decide +kernel
theorem dL_law_1262 : decode cL_law 1262 = .ok (.iload_n 3, 1) := by decide +kernel
theorem dL_law_1263 : decode cL_law 1263 = .ok (.iconst 1, 1) := by decide +kernel
theorem dL_law_1264 : decode cL_law 1264 = .ok (.iadd, 1) := by decide +kernel
theorem dL_law_1265 : decode cL_law 1265 = .ok (.iaload, 1) := by decide +kernel
theorem dL_law_1266 : decode cL_law 1266 = .ok (.invokevirtual 151, 3) := by decide +kernel
theorem dL_law_1269 : decode cL_law 1269 = .ok (.if_icmp .eq 153, 3) := by decide +kernel
theorem dL_law_1272 : decode cL_law 1272 = .ok (.iconst 0, 1) := by decide +kernel
theorem dL_law_1273 : decode cL_law 1273 = .ok (.ireturn, 1) := by decide +kernel
theorem dL_law_1274 : decode cL_law 1274 = .ok (.aload_n 1, 1) := by decide +kernel
theorem dL_law_1275 : decode cL_law 1275 = .ok (.aload_n 0, 1) := by decide +kernel
theorem dL_law_1276 : decode cL_law 1276 = .ok (.iload_n 3, 1) := by decide +kernel
theorem dL_law_1277 : decode cL_law 1277 = .ok (.iconst 1, 1) := by decide +kernel
theorem dL_law_1278 : decode cL_law 1278 = .ok (.iadd, 1) := by decide +kernel
theorem dL_law_1279 : decode cL_law 1279 = .ok (.iaload, 1) := by decide +kernel
theorem dL_law_1280 : decode cL_law 1280 = .ok (.invokevirtual 152, 3) := by decide +kernel
theorem dL_law_1283 : decode cL_law 1283 = .ok (.aload_n 2, 1) := by decide +kernel
theorem dL_law_1284 : decode cL_law 1284 = .ok (.aload_n 0, 1) := by decide +kernel
theorem dL_law_1285 : decode cL_law 1285 = .ok (.iload_n 3, 1) := by decide +kernel
theorem dL_law_1286 : decode cL_law 1286 = .ok (.iconst 1, 1) := by decide +kernel
theorem dL_law_1287 : decode cL_law 1287 = .ok (.iadd, 1) := by decide +kernel
theorem dL_law_1288 : decode cL_law 1288 = .ok (.iaload, 1) := by decide +kernel
theorem dL_law_1289 : decode cL_law 1289 = .ok (.invokevirtual 155, 3) := by decide +kernel
theorem dL_law_1292 : decode cL_law 1292 = .ok (.if_icmp .eq 130, 3) := by decide +kernel
theorem dL_law_1295 : decode cL_law 1295 = .ok (.iconst 0, 1) := by decide +kernel
theorem dL_law_1296 : decode cL_law 1296 = .ok (.ireturn, 1) := by decide +kernel
theorem dL_law_1297 : decode cL_law 1297 = .ok (.aload_n 1, 1) := by decide +kernel
theorem dL_law_1298 : decode cL_law 1298 = .ok (.aload_n 0, 1) := by decide +kernel
theorem dL_law_1299 : decode cL_law 1299 = .ok (.iload_n 3, 1) := by decide +kernel
theorem dL_law_1300 : decode cL_law 1300 = .ok (.iconst 1, 1) := by decide +kernel
theorem dL_law_1301 : decode cL_law 1301 = .ok (.iadd, 1) := by decide +kernel
theorem dL_law_1302 : decode cL_law 1302 = .ok (.iaload, 1) := by decide +kernel
theorem dL_law_1303 : decode cL_law 1303 = .ok (.aload_n 0, 1) := by decide +kernel
theorem dL_law_1304 : decode cL_law 1304 = .ok (.iload_n 3, 1) := by decide +kernel
theorem dL_law_1305 : decode cL_law 1305 = .ok (.iconst 2, 1) := by decide +kernel
theorem dL_law_1306 : decode cL_law 1306 = .ok (.iadd, 1) := by decide +kernel
theorem dL_law_1307 : decode cL_law 1307 = .ok (.iaload, 1) := by decide +kernel
theorem dL_law_1308 : decode cL_law 1308 = .ok (.invokevirtual 156, 3) := by decide +kernel
theorem dL_law_1311 : decode cL_law 1311 = .ok (.aload_n 2, 1) := by decide +kernel
theorem dL_law_1312 : decode cL_law 1312 = .ok (.aload_n 0, 1) := by decide +kernel
theorem dL_law_1313 : decode cL_law 1313 = .ok (.iload_n 3, 1) := by decide +kernel
theorem dL_law_1314 : decode cL_law 1314 = .ok (.iconst 1, 1) := by decide +kernel
theorem dL_law_1315 : decode cL_law 1315 = .ok (.iadd, 1) := by decide +kernel
theorem dL_law_1316 : decode cL_law 1316 = .ok (.iaload, 1) := by decide +kernel
theorem dL_law_1317 : decode cL_law 1317 = .ok (.aload_n 0, 1) := by decide +kernel
theorem dL_law_1318 : decode cL_law 1318 = .ok (.iload_n 3, 1) := by decide +kernel
theorem dL_law_1319 : decode cL_law 1319 = .ok (.iconst 2, 1) := by decide +kernel
theorem dL_law_1320 : decode cL_law 1320 = .ok (.iadd, 1) := by decide +kernel
theorem dL_law_1321 : decode cL_law 1321 = .ok (.iaload, 1) := by decide +kernel
theorem dL_law_1322 : decode cL_law 1322 = .ok (.invokevirtual 159, 3) := by decide +kernel
theorem dL_law_1325 : decode cL_law 1325 = .ok (.if_icmp .eq 97, 3) := by decide +kernel
theorem dL_law_1328 : decode cL_law 1328 = .ok (.iconst 0, 1) := by decide +kernel
theorem dL_law_1329 : decode cL_law 1329 = .ok (.ireturn, 1) := by decide +kernel
theorem dL_law_1330 : decode cL_law 1330 = .ok (.aload_n 1, 1) := by decide +kernel
theorem dL_law_1331 : decode cL_law 1331 = .ok (.aload_n 0, 1) := by decide +kernel
theorem dL_law_1332 : decode cL_law 1332 = .ok (.iload_n 3, 1) := by decide +kernel
theorem dL_law_1333 : decode cL_law 1333 = .ok (.iconst 1, 1) := by decide +kernel
theorem dL_law_1334 : decode cL_law 1334 = .ok (.iadd, 1) := by decide +kernel
theorem dL_law_1335 : decode cL_law 1335 = .ok (.iaload, 1) := by decide +kernel
theorem dL_law_1336 : decode cL_law 1336 = .ok (.aload_n 0, 1) := by decide +kernel
theorem dL_law_1337 : decode cL_law 1337 = .ok (.iload_n 3, 1) := by decide +kernel
theorem dL_law_1338 : decode cL_law 1338 = .ok (.iconst 2, 1) := by decide +kernel
theorem dL_law_1339 : decode cL_law 1339 = .ok (.iadd, 1) := by decide +kernel
theorem dL_law_1340 : decode cL_law 1340 = .ok (.iaload, 1) := by decide +kernel
theorem dL_law_1341 : decode cL_law 1341 = .ok (.invokevirtual 160, 3) := by decide +kernel
theorem dL_law_1344 : decode cL_law 1344 = .ok (.aload_n 2, 1) := by decide +kernel
theorem dL_law_1345 : decode cL_law 1345 = .ok (.aload_n 0, 1) := by decide +kernel
theorem dL_law_1346 : decode cL_law 1346 = .ok (.iload_n 3, 1) := by decide +kernel
theorem dL_law_1347 : decode cL_law 1347 = .ok (.iconst 1, 1) := by decide +kernel
theorem dL_law_1348 : decode cL_law 1348 = .ok (.iadd, 1) := by decide +kernel
theorem dL_law_1349 : decode cL_law 1349 = .ok (.iaload, 1) := by decide +kernel
theorem dL_law_1350 : decode cL_law 1350 = .ok (.aload_n 0, 1) := by decide +kernel
theorem dL_law_1351 : decode cL_law 1351 = .ok (.iload_n 3, 1) := by decide +kernel
theorem dL_law_1352 : decode cL_law 1352 = .ok (.iconst 2, 1) := by decide +kernel
theorem dL_law_1353 : decode cL_law 1353 = .ok (.iadd, 1) := by decide +kernel
theorem dL_law_1354 : decode cL_law 1354 = .ok (.iaload, 1) := by decide +kernel
theorem dL_law_1355 : decode cL_law 1355 = .ok (.invokevirtual 163, 3) := by decide +kernel
theorem dL_law_1358 : decode cL_law 1358 = .ok (.if_icmp .eq 64, 3) := by decide +kernel
theorem dL_law_1361 : decode cL_law 1361 = .ok (.iconst 0, 1) := by decide +kernel
theorem dL_law_1362 : decode cL_law 1362 = .ok (.ireturn, 1) := by decide +kernel
theorem dL_law_1363 : decode cL_law 1363 = .ok (.aload_n 1, 1) := by decide +kernel
theorem dL_law_1364 : decode cL_law 1364 = .ok (.aload_n 0, 1) := by decide +kernel
theorem dL_law_1365 : decode cL_law 1365 = .ok (.iload_n 3, 1) := by decide +kernel
theorem dL_law_1366 : decode cL_law 1366 = .ok (.iconst 1, 1) := by decide +kernel
theorem dL_law_1367 : decode cL_law 1367 = .ok (.iadd, 1) := by decide +kernel
theorem dL_law_1368 : decode cL_law 1368 = .ok (.iaload, 1) := by decide +kernel
theorem dL_law_1369 : decode cL_law 1369 = .ok (.invokevirtual 164, 3) := by decide +kernel
theorem dL_law_1372 : decode cL_law 1372 = .ok (.aload_n 2, 1) := by decide +kernel
theorem dL_law_1373 : decode cL_law 1373 = .ok (.aload_n 0, 1) := by decide +kernel
theorem dL_law_1374 : decode cL_law 1374 = .ok (.iload_n 3, 1) := by decide +kernel
theorem dL_law_1375 : decode cL_law 1375 = .ok (.iconst 1, 1) := by decide +kernel
theorem dL_law_1376 : decode cL_law 1376 = .ok (.iadd, 1) := by decide +kernel
theorem dL_law_1377 : decode cL_law 1377 = .ok (.iaload, 1) := by decide +kernel
theorem dL_law_1378 : decode cL_law 1378 = .ok (.invokevirtual 167, 3) := by decide +kernel
theorem dL_law_1381 : decode cL_law 1381 = .ok (.if_icmp .eq 41, 3) := by decide +kernel
theorem dL_law_1384 : decode cL_law 1384 = .ok (.iconst 0, 1) := by decide +kernel
theorem dL_law_1385 : decode cL_law 1385 = .ok (.ireturn, 1) := by decide +kernel
theorem dL_law_1386 : decode cL_law 1386 = .ok (.aload_n 1, 1) := by decide +kernel
theorem dL_law_1387 : decode cL_law 1387 = .ok (.aload_n 0, 1) := by decide +kernel
theorem dL_law_1388 : decode cL_law 1388 = .ok (.iload_n 3, 1) := by decide +kernel
theorem dL_law_1389 : decode cL_law 1389 = .ok (.iconst 1, 1) := by decide +kernel
theorem dL_law_1390 : decode cL_law 1390 = .ok (.iadd, 1) := by decide +kernel
theorem dL_law_1391 : decode cL_law 1391 = .ok (.iaload, 1) := by decide +kernel
theorem dL_law_1392 : decode cL_law 1392 = .ok (.invokevirtual 168, 3) := by decide +kernel
theorem dL_law_1395 : decode cL_law 1395 = .ok (.aload_n 2, 1) := by decide +kernel
theorem dL_law_1396 : decode cL_law 1396 = .ok (.aload_n 0, 1) := by decide +kernel
theorem dL_law_1397 : decode cL_law 1397 = .ok (.iload_n 3, 1) := by decide +kernel
theorem dL_law_1398 : decode cL_law 1398 = .ok (.iconst 1, 1) := by decide +kernel
theorem dL_law_1399 : decode cL_law 1399 = .ok (.iadd, 1) := by decide +kernel
theorem dL_law_1400 : decode cL_law 1400 = .ok (.iaload, 1) := by decide +kernel
theorem dL_law_1401 : decode cL_law 1401 = .ok (.invokevirtual 171, 3) := by decide +kernel
theorem dL_law_1404 : decode cL_law 1404 = .ok (.if_icmp .eq 18, 3) := by decide +kernel
theorem dL_law_1407 : decode cL_law 1407 = .ok (.iconst 0, 1) := by decide +kernel
theorem dL_law_1408 : decode cL_law 1408 = .ok (.ireturn, 1) := by decide +kernel
theorem dL_law_1409 : decode cL_law 1409 = .ok (.aload_n 1, 1) := by decide +kernel
theorem dL_law_1410 : decode cL_law 1410 = .ok (.invokevirtual 172, 3) := by decide +kernel
theorem dL_law_1413 : decode cL_law 1413 = .ok (.aload_n 2, 1) := by decide +kernel
theorem dL_law_1414 : decode cL_law 1414 = .ok (.invokevirtual 175, 3) := by decide +kernel
theorem dL_law_1417 : decode cL_law 1417 = .ok (.if_icmp .eq 5, 3) := by decide +kernel
theorem dL_law_1420 : decode cL_law 1420 = .ok (.iconst 0, 1) := by decide +kernel
theorem dL_law_1421 : decode cL_law 1421 = .ok (.ireturn, 1) := by decide +kernel
theorem dL_law_1422 : decode cL_law 1422 = .ok (.iinc 3 6, 3) := by decide +kernel
theorem dL_law_1425 : decode cL_law 1425 = .ok (.goto (-1407), 3) := by decide +kernel
theorem dL_law_1428 : decode cL_law 1428 = .ok (.iconst 1, 1) := by decide +kernel
theorem dL_law_1429 : decode cL_law 1429 = .ok (.ireturn, 1) := by decide +kernel
